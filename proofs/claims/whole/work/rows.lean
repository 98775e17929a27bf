section
-- ===== PART A: goes FIRST, ahead of the names: the tables' words, and 'selects' of the private methods out of them =====
/-- a private method of a class that the tables say can be made, by its rows of tables_1 -/
def lw_okq (q : MethodName × Nat) : Prop := (q.1.cls ≠ "java/lang/invoke/MethodHandle" ∧ q.1.cls ≠ "java/lang/invoke/VarHandle") ∧ Cond.instantiable q.1.cls q.2 ∈ tables_1 ∧ Cond.privateMethod q.1 ∈ tables_1 ∧ Cond.instanceMethod q.1 ∈ tables_1
theorem lw_p0 : lw_okq (⟨"GateManners", "finding", "(I)I"⟩, 7) := ⟨⟨by decide +kernel, by decide +kernel⟩, List.mem_of_getElem? (i := 14) (by decide +kernel), List.mem_of_getElem? (i := 199) (by decide +kernel), List.mem_of_getElem? (i := 200) (by decide +kernel)⟩
theorem lw_p1 : lw_okq (⟨"GateManners", "isWalker", "(I)Z"⟩, 7) := ⟨⟨by decide +kernel, by decide +kernel⟩, List.mem_of_getElem? (i := 14) (by decide +kernel), List.mem_of_getElem? (i := 245) (by decide +kernel), List.mem_of_getElem? (i := 246) (by decide +kernel)⟩
theorem lw_p2 : lw_okq (⟨"GateManners", "tryHours", "(I)V"⟩, 7) := ⟨⟨by decide +kernel, by decide +kernel⟩, List.mem_of_getElem? (i := 14) (by decide +kernel), List.mem_of_getElem? (i := 337) (by decide +kernel), List.mem_of_getElem? (i := 338) (by decide +kernel)⟩
theorem lw_p3 : lw_okq (⟨"GateManners", "isWish", "(IIII)Z"⟩, 7) := ⟨⟨by decide +kernel, by decide +kernel⟩, List.mem_of_getElem? (i := 14) (by decide +kernel), List.mem_of_getElem? (i := 372) (by decide +kernel), List.mem_of_getElem? (i := 373) (by decide +kernel)⟩
theorem lw_p4 : lw_okq (⟨"GateManners", "valuesFor", "(IIIII)I"⟩, 7) := ⟨⟨by decide +kernel, by decide +kernel⟩, List.mem_of_getElem? (i := 14) (by decide +kernel), List.mem_of_getElem? (i := 376) (by decide +kernel), List.mem_of_getElem? (i := 377) (by decide +kernel)⟩
theorem lw_p5 : lw_okq (⟨"GateManners", "leastHome", "(IIII)I"⟩, 7) := ⟨⟨by decide +kernel, by decide +kernel⟩, List.mem_of_getElem? (i := 14) (by decide +kernel), List.mem_of_getElem? (i := 400) (by decide +kernel), List.mem_of_getElem? (i := 401) (by decide +kernel)⟩
theorem lw_p6 : lw_okq (⟨"GateManners", "wrongSheet", "(I)I"⟩, 7) := ⟨⟨by decide +kernel, by decide +kernel⟩, List.mem_of_getElem? (i := 14) (by decide +kernel), List.mem_of_getElem? (i := 418) (by decide +kernel), List.mem_of_getElem? (i := 419) (by decide +kernel)⟩
theorem lw_p7 : lw_okq (⟨"GateManners", "feelsAsTold", "(LGateManners$Sheet;I)Z"⟩, 7) := ⟨⟨by decide +kernel, by decide +kernel⟩, List.mem_of_getElem? (i := 14) (by decide +kernel), List.mem_of_getElem? (i := 441) (by decide +kernel), List.mem_of_getElem? (i := 442) (by decide +kernel)⟩
theorem lw_p8 : lw_okq (⟨"GateManners$Tape", "split", "()V"⟩, 7) := ⟨⟨by decide +kernel, by decide +kernel⟩, List.mem_of_getElem? (i := 68) (by decide +kernel), List.mem_of_getElem? (i := 485) (by decide +kernel), List.mem_of_getElem? (i := 486) (by decide +kernel)⟩
theorem lw_p9 : lw_okq (⟨"GateManners$Tape", "setToken", "(III)V"⟩, 7) := ⟨⟨by decide +kernel, by decide +kernel⟩, List.mem_of_getElem? (i := 68) (by decide +kernel), List.mem_of_getElem? (i := 492) (by decide +kernel), List.mem_of_getElem? (i := 493) (by decide +kernel)⟩
theorem lw_p10 : lw_okq (⟨"GateManners$Tape", "takeItem", "(LGateManners$Farm;)Z"⟩, 7) := ⟨⟨by decide +kernel, by decide +kernel⟩, List.mem_of_getElem? (i := 68) (by decide +kernel), List.mem_of_getElem? (i := 496) (by decide +kernel), List.mem_of_getElem? (i := 497) (by decide +kernel)⟩
theorem lw_p11 : lw_okq (⟨"GateManners$Tape", "wordAhead", "()I"⟩, 7) := ⟨⟨by decide +kernel, by decide +kernel⟩, List.mem_of_getElem? (i := 68) (by decide +kernel), List.mem_of_getElem? (i := 500) (by decide +kernel), List.mem_of_getElem? (i := 501) (by decide +kernel)⟩
theorem lw_p12 : lw_okq (⟨"GateManners$Tape", "isSpelt", "(I)Z"⟩, 7) := ⟨⟨by decide +kernel, by decide +kernel⟩, List.mem_of_getElem? (i := 68) (by decide +kernel), List.mem_of_getElem? (i := 504) (by decide +kernel), List.mem_of_getElem? (i := 505) (by decide +kernel)⟩
theorem lw_p13 : lw_okq (⟨"GateManners$Tape", "takeWalker", "(LGateManners$Farm;I)Z"⟩, 7) := ⟨⟨by decide +kernel, by decide +kernel⟩, List.mem_of_getElem? (i := 68) (by decide +kernel), List.mem_of_getElem? (i := 508) (by decide +kernel), List.mem_of_getElem? (i := 509) (by decide +kernel)⟩
theorem lw_p14 : lw_okq (⟨"GateManners$Tape", "takeWord", "(I)Z"⟩, 7) := ⟨⟨by decide +kernel, by decide +kernel⟩, List.mem_of_getElem? (i := 68) (by decide +kernel), List.mem_of_getElem? (i := 513) (by decide +kernel), List.mem_of_getElem? (i := 514) (by decide +kernel)⟩
theorem lw_p15 : lw_okq (⟨"GateManners$Tape", "takeNumber", "(I)I"⟩, 7) := ⟨⟨by decide +kernel, by decide +kernel⟩, List.mem_of_getElem? (i := 68) (by decide +kernel), List.mem_of_getElem? (i := 517) (by decide +kernel), List.mem_of_getElem? (i := 518) (by decide +kernel)⟩
def lw_privs_1 : List (MethodName × Nat) := [(⟨"GateManners", "finding", "(I)I"⟩, 7), (⟨"GateManners", "isWalker", "(I)Z"⟩, 7), (⟨"GateManners", "tryHours", "(I)V"⟩, 7), (⟨"GateManners", "isWish", "(IIII)Z"⟩, 7), (⟨"GateManners", "valuesFor", "(IIIII)I"⟩, 7), (⟨"GateManners", "leastHome", "(IIII)I"⟩, 7), (⟨"GateManners", "wrongSheet", "(I)I"⟩, 7), (⟨"GateManners", "feelsAsTold", "(LGateManners$Sheet;I)Z"⟩, 7), (⟨"GateManners$Tape", "split", "()V"⟩, 7), (⟨"GateManners$Tape", "setToken", "(III)V"⟩, 7), (⟨"GateManners$Tape", "takeItem", "(LGateManners$Farm;)Z"⟩, 7), (⟨"GateManners$Tape", "wordAhead", "()I"⟩, 7), (⟨"GateManners$Tape", "isSpelt", "(I)Z"⟩, 7), (⟨"GateManners$Tape", "takeWalker", "(LGateManners$Farm;I)Z"⟩, 7), (⟨"GateManners$Tape", "takeWord", "(I)Z"⟩, 7), (⟨"GateManners$Tape", "takeNumber", "(I)I"⟩, 7)]
theorem lw_r1 : ∀ q ∈ lw_privs_1, lw_okq q := List.forall_mem_cons.mpr ⟨lw_p0, List.forall_mem_cons.mpr ⟨lw_p1, List.forall_mem_cons.mpr ⟨lw_p2, List.forall_mem_cons.mpr ⟨lw_p3, List.forall_mem_cons.mpr ⟨lw_p4, List.forall_mem_cons.mpr ⟨lw_p5, List.forall_mem_cons.mpr ⟨lw_p6, List.forall_mem_cons.mpr ⟨lw_p7, List.forall_mem_cons.mpr ⟨lw_p8, List.forall_mem_cons.mpr ⟨lw_p9, List.forall_mem_cons.mpr ⟨lw_p10, List.forall_mem_cons.mpr ⟨lw_p11, List.forall_mem_cons.mpr ⟨lw_p12, List.forall_mem_cons.mpr ⟨lw_p13, List.forall_mem_cons.mpr ⟨lw_p14, List.forall_mem_cons.mpr ⟨lw_p15, fun _ h => absurd h List.not_mem_nil⟩⟩⟩⟩⟩⟩⟩⟩⟩⟩⟩⟩⟩⟩⟩⟩
theorem lw_p16 : lw_okq (⟨"GateManners$Tape", "takeGate", "(LGateManners$Farm;I)Z"⟩, 7) := ⟨⟨by decide +kernel, by decide +kernel⟩, List.mem_of_getElem? (i := 68) (by decide +kernel), List.mem_of_getElem? (i := 522) (by decide +kernel), List.mem_of_getElem? (i := 523) (by decide +kernel)⟩
theorem lw_p17 : lw_okq (⟨"GateManners$Tape", "takeBeasts", "(LGateManners$Farm;)Z"⟩, 7) := ⟨⟨by decide +kernel, by decide +kernel⟩, List.mem_of_getElem? (i := 68) (by decide +kernel), List.mem_of_getElem? (i := 526) (by decide +kernel), List.mem_of_getElem? (i := 527) (by decide +kernel)⟩
theorem lw_p18 : lw_okq (⟨"GateManners$Tape", "takeWind", "(LGateManners$Farm;)Z"⟩, 7) := ⟨⟨by decide +kernel, by decide +kernel⟩, List.mem_of_getElem? (i := 68) (by decide +kernel), List.mem_of_getElem? (i := 530) (by decide +kernel), List.mem_of_getElem? (i := 531) (by decide +kernel)⟩
theorem lw_p19 : lw_okq (⟨"GateManners", "allFound", "()I"⟩, 7) := ⟨⟨by decide +kernel, by decide +kernel⟩, List.mem_of_getElem? (i := 14) (by decide +kernel), List.mem_of_getElem? (i := 608) (by decide +kernel), List.mem_of_getElem? (i := 609) (by decide +kernel)⟩
theorem lw_p20 : lw_okq (⟨"GateMannersModel", "becomes", "(II)I"⟩, 17) := ⟨⟨by decide +kernel, by decide +kernel⟩, List.mem_of_getElem? (i := 612) (by decide +kernel), List.mem_of_getElem? (i := 681) (by decide +kernel), List.mem_of_getElem? (i := 682) (by decide +kernel)⟩
theorem lw_p21 : lw_okq (⟨"GateMannersModel", "finds", "(I)I"⟩, 17) := ⟨⟨by decide +kernel, by decide +kernel⟩, List.mem_of_getElem? (i := 612) (by decide +kernel), List.mem_of_getElem? (i := 686) (by decide +kernel), List.mem_of_getElem? (i := 687) (by decide +kernel)⟩
theorem lw_p22 : lw_okq (⟨"GateMannersModel", "there", "(I)I"⟩, 17) := ⟨⟨by decide +kernel, by decide +kernel⟩, List.mem_of_getElem? (i := 612) (by decide +kernel), List.mem_of_getElem? (i := 694) (by decide +kernel), List.mem_of_getElem? (i := 695) (by decide +kernel)⟩
theorem lw_p23 : lw_okq (⟨"GateMannersModel", "its", "(II)I"⟩, 17) := ⟨⟨by decide +kernel, by decide +kernel⟩, List.mem_of_getElem? (i := 612) (by decide +kernel), List.mem_of_getElem? (i := 698) (by decide +kernel), List.mem_of_getElem? (i := 699) (by decide +kernel)⟩
theorem lw_p24 : lw_okq (⟨"GateMannersModel", "comes", "(II)V"⟩, 17) := ⟨⟨by decide +kernel, by decide +kernel⟩, List.mem_of_getElem? (i := 612) (by decide +kernel), List.mem_of_getElem? (i := 728) (by decide +kernel), List.mem_of_getElem? (i := 729) (by decide +kernel)⟩
theorem lw_p25 : lw_okq (⟨"GateMannersModel", "isWalker", "(I)Z"⟩, 17) := ⟨⟨by decide +kernel, by decide +kernel⟩, List.mem_of_getElem? (i := 612) (by decide +kernel), List.mem_of_getElem? (i := 739) (by decide +kernel), List.mem_of_getElem? (i := 740) (by decide +kernel)⟩
theorem lw_p26 : lw_okq (⟨"GateMannersModel", "goesFar", "(I)I"⟩, 17) := ⟨⟨by decide +kernel, by decide +kernel⟩, List.mem_of_getElem? (i := 612) (by decide +kernel), List.mem_of_getElem? (i := 744) (by decide +kernel), List.mem_of_getElem? (i := 745) (by decide +kernel)⟩
theorem lw_p27 : lw_okq (⟨"GateMannersModel", "leavesIt", "(II)I"⟩, 17) := ⟨⟨by decide +kernel, by decide +kernel⟩, List.mem_of_getElem? (i := 612) (by decide +kernel), List.mem_of_getElem? (i := 760) (by decide +kernel), List.mem_of_getElem? (i := 761) (by decide +kernel)⟩
theorem lw_p28 : lw_okq (⟨"GateMannersModel", "feels", "(II)I"⟩, 17) := ⟨⟨by decide +kernel, by decide +kernel⟩, List.mem_of_getElem? (i := 612) (by decide +kernel), List.mem_of_getElem? (i := 764) (by decide +kernel), List.mem_of_getElem? (i := 765) (by decide +kernel)⟩
theorem lw_p29 : lw_okq (⟨"GateMannersModel", "goes", "(I)V"⟩, 17) := ⟨⟨by decide +kernel, by decide +kernel⟩, List.mem_of_getElem? (i := 612) (by decide +kernel), List.mem_of_getElem? (i := 778) (by decide +kernel), List.mem_of_getElem? (i := 779) (by decide +kernel)⟩
theorem lw_p30 : lw_okq (⟨"GateMannersModel", "hourBut", "(I)V"⟩, 17) := ⟨⟨by decide +kernel, by decide +kernel⟩, List.mem_of_getElem? (i := 612) (by decide +kernel), List.mem_of_getElem? (i := 782) (by decide +kernel), List.mem_of_getElem? (i := 783) (by decide +kernel)⟩
theorem lw_p31 : lw_okq (⟨"GateMannersModel", "walks", "(I)V"⟩, 17) := ⟨⟨by decide +kernel, by decide +kernel⟩, List.mem_of_getElem? (i := 612) (by decide +kernel), List.mem_of_getElem? (i := 786) (by decide +kernel), List.mem_of_getElem? (i := 787) (by decide +kernel)⟩
def lw_privs_2 : List (MethodName × Nat) := [(⟨"GateManners$Tape", "takeGate", "(LGateManners$Farm;I)Z"⟩, 7), (⟨"GateManners$Tape", "takeBeasts", "(LGateManners$Farm;)Z"⟩, 7), (⟨"GateManners$Tape", "takeWind", "(LGateManners$Farm;)Z"⟩, 7), (⟨"GateManners", "allFound", "()I"⟩, 7), (⟨"GateMannersModel", "becomes", "(II)I"⟩, 17), (⟨"GateMannersModel", "finds", "(I)I"⟩, 17), (⟨"GateMannersModel", "there", "(I)I"⟩, 17), (⟨"GateMannersModel", "its", "(II)I"⟩, 17), (⟨"GateMannersModel", "comes", "(II)V"⟩, 17), (⟨"GateMannersModel", "isWalker", "(I)Z"⟩, 17), (⟨"GateMannersModel", "goesFar", "(I)I"⟩, 17), (⟨"GateMannersModel", "leavesIt", "(II)I"⟩, 17), (⟨"GateMannersModel", "feels", "(II)I"⟩, 17), (⟨"GateMannersModel", "goes", "(I)V"⟩, 17), (⟨"GateMannersModel", "hourBut", "(I)V"⟩, 17), (⟨"GateMannersModel", "walks", "(I)V"⟩, 17)]
theorem lw_r2 : ∀ q ∈ lw_privs_2, lw_okq q := List.forall_mem_cons.mpr ⟨lw_p16, List.forall_mem_cons.mpr ⟨lw_p17, List.forall_mem_cons.mpr ⟨lw_p18, List.forall_mem_cons.mpr ⟨lw_p19, List.forall_mem_cons.mpr ⟨lw_p20, List.forall_mem_cons.mpr ⟨lw_p21, List.forall_mem_cons.mpr ⟨lw_p22, List.forall_mem_cons.mpr ⟨lw_p23, List.forall_mem_cons.mpr ⟨lw_p24, List.forall_mem_cons.mpr ⟨lw_p25, List.forall_mem_cons.mpr ⟨lw_p26, List.forall_mem_cons.mpr ⟨lw_p27, List.forall_mem_cons.mpr ⟨lw_p28, List.forall_mem_cons.mpr ⟨lw_p29, List.forall_mem_cons.mpr ⟨lw_p30, List.forall_mem_cons.mpr ⟨lw_p31, fun _ h => absurd h List.not_mem_nil⟩⟩⟩⟩⟩⟩⟩⟩⟩⟩⟩⟩⟩⟩⟩⟩
theorem lw_p32 : lw_okq (⟨"GateMannersModel", "wander", "()V"⟩, 17) := ⟨⟨by decide +kernel, by decide +kernel⟩, List.mem_of_getElem? (i := 612) (by decide +kernel), List.mem_of_getElem? (i := 790) (by decide +kernel), List.mem_of_getElem? (i := 791) (by decide +kernel)⟩
theorem lw_p33 : lw_okq (⟨"GateMannersModel", "allStand", "()I"⟩, 17) := ⟨⟨by decide +kernel, by decide +kernel⟩, List.mem_of_getElem? (i := 612) (by decide +kernel), List.mem_of_getElem? (i := 794) (by decide +kernel), List.mem_of_getElem? (i := 795) (by decide +kernel)⟩
theorem lw_p34 : lw_okq (⟨"GateMannersModel", "beastsAll", "()I"⟩, 17) := ⟨⟨by decide +kernel, by decide +kernel⟩, List.mem_of_getElem? (i := 612) (by decide +kernel), List.mem_of_getElem? (i := 802) (by decide +kernel), List.mem_of_getElem? (i := 803) (by decide +kernel)⟩
theorem lw_p35 : lw_okq (⟨"GateMannersModel", "notShut", "()I"⟩, 17) := ⟨⟨by decide +kernel, by decide +kernel⟩, List.mem_of_getElem? (i := 612) (by decide +kernel), List.mem_of_getElem? (i := 806) (by decide +kernel), List.mem_of_getElem? (i := 807) (by decide +kernel)⟩
theorem lw_p36 : lw_okq (⟨"GateMannersModel", "passedAll", "()I"⟩, 17) := ⟨⟨by decide +kernel, by decide +kernel⟩, List.mem_of_getElem? (i := 612) (by decide +kernel), List.mem_of_getElem? (i := 810) (by decide +kernel), List.mem_of_getElem? (i := 811) (by decide +kernel)⟩
theorem lw_p37 : lw_okq (⟨"GateMannersModel", "fullest", "()I"⟩, 17) := ⟨⟨by decide +kernel, by decide +kernel⟩, List.mem_of_getElem? (i := 612) (by decide +kernel), List.mem_of_getElem? (i := 814) (by decide +kernel), List.mem_of_getElem? (i := 815) (by decide +kernel)⟩
theorem lw_p38 : lw_okq (⟨"GateMannersModel", "thenAt", "(II)I"⟩, 17) := ⟨⟨by decide +kernel, by decide +kernel⟩, List.mem_of_getElem? (i := 612) (by decide +kernel), List.mem_of_getElem? (i := 823) (by decide +kernel), List.mem_of_getElem? (i := 824) (by decide +kernel)⟩
theorem lw_p39 : lw_okq (⟨"GateMannersModel", "isAsked", "(IIII)Z"⟩, 17) := ⟨⟨by decide +kernel, by decide +kernel⟩, List.mem_of_getElem? (i := 612) (by decide +kernel), List.mem_of_getElem? (i := 855) (by decide +kernel), List.mem_of_getElem? (i := 856) (by decide +kernel)⟩
theorem lw_p40 : lw_okq (⟨"GateMannersModel", "withWhich", "(IIIII)I"⟩, 17) := ⟨⟨by decide +kernel, by decide +kernel⟩, List.mem_of_getElem? (i := 612) (by decide +kernel), List.mem_of_getElem? (i := 860) (by decide +kernel), List.mem_of_getElem? (i := 861) (by decide +kernel)⟩
theorem lw_p41 : lw_okq (⟨"GateMannersModel", "orNone", "(I)I"⟩, 17) := ⟨⟨by decide +kernel, by decide +kernel⟩, List.mem_of_getElem? (i := 612) (by decide +kernel), List.mem_of_getElem? (i := 867) (by decide +kernel), List.mem_of_getElem? (i := 868) (by decide +kernel)⟩
theorem lw_p42 : lw_okq (⟨"GateMannersModel", "wants", "(I)I"⟩, 17) := ⟨⟨by decide +kernel, by decide +kernel⟩, List.mem_of_getElem? (i := 612) (by decide +kernel), List.mem_of_getElem? (i := 899) (by decide +kernel), List.mem_of_getElem? (i := 900) (by decide +kernel)⟩
theorem lw_p43 : lw_okq (⟨"GateMannersModel", "allBut", "(I)I"⟩, 17) := ⟨⟨by decide +kernel, by decide +kernel⟩, List.mem_of_getElem? (i := 612) (by decide +kernel), List.mem_of_getElem? (i := 907) (by decide +kernel), List.mem_of_getElem? (i := 908) (by decide +kernel)⟩
theorem lw_p44 : lw_okq (⟨"GateMannersModel", "isTold", "(III)Z"⟩, 17) := ⟨⟨by decide +kernel, by decide +kernel⟩, List.mem_of_getElem? (i := 612) (by decide +kernel), List.mem_of_getElem? (i := 911) (by decide +kernel), List.mem_of_getElem? (i := 912) (by decide +kernel)⟩
theorem lw_p45 : lw_okq (⟨"GateMannersModel", "isInMood", "(II)Z"⟩, 17) := ⟨⟨by decide +kernel, by decide +kernel⟩, List.mem_of_getElem? (i := 612) (by decide +kernel), List.mem_of_getElem? (i := 923) (by decide +kernel), List.mem_of_getElem? (i := 924) (by decide +kernel)⟩
theorem lw_p46 : lw_okq (⟨"GateMannersModel", "draw", "()I"⟩, 17) := ⟨⟨by decide +kernel, by decide +kernel⟩, List.mem_of_getElem? (i := 612) (by decide +kernel), List.mem_of_getElem? (i := 931) (by decide +kernel), List.mem_of_getElem? (i := 932) (by decide +kernel)⟩
theorem lw_p47 : lw_okq (⟨"GateMannersModel", "nextToken", "()V"⟩, 17) := ⟨⟨by decide +kernel, by decide +kernel⟩, List.mem_of_getElem? (i := 612) (by decide +kernel), List.mem_of_getElem? (i := 958) (by decide +kernel), List.mem_of_getElem? (i := 959) (by decide +kernel)⟩
def lw_privs_3 : List (MethodName × Nat) := [(⟨"GateMannersModel", "wander", "()V"⟩, 17), (⟨"GateMannersModel", "allStand", "()I"⟩, 17), (⟨"GateMannersModel", "beastsAll", "()I"⟩, 17), (⟨"GateMannersModel", "notShut", "()I"⟩, 17), (⟨"GateMannersModel", "passedAll", "()I"⟩, 17), (⟨"GateMannersModel", "fullest", "()I"⟩, 17), (⟨"GateMannersModel", "thenAt", "(II)I"⟩, 17), (⟨"GateMannersModel", "isAsked", "(IIII)Z"⟩, 17), (⟨"GateMannersModel", "withWhich", "(IIIII)I"⟩, 17), (⟨"GateMannersModel", "orNone", "(I)I"⟩, 17), (⟨"GateMannersModel", "wants", "(I)I"⟩, 17), (⟨"GateMannersModel", "allBut", "(I)I"⟩, 17), (⟨"GateMannersModel", "isTold", "(III)Z"⟩, 17), (⟨"GateMannersModel", "isInMood", "(II)Z"⟩, 17), (⟨"GateMannersModel", "draw", "()I"⟩, 17), (⟨"GateMannersModel", "nextToken", "()V"⟩, 17)]
theorem lw_r3 : ∀ q ∈ lw_privs_3, lw_okq q := List.forall_mem_cons.mpr ⟨lw_p32, List.forall_mem_cons.mpr ⟨lw_p33, List.forall_mem_cons.mpr ⟨lw_p34, List.forall_mem_cons.mpr ⟨lw_p35, List.forall_mem_cons.mpr ⟨lw_p36, List.forall_mem_cons.mpr ⟨lw_p37, List.forall_mem_cons.mpr ⟨lw_p38, List.forall_mem_cons.mpr ⟨lw_p39, List.forall_mem_cons.mpr ⟨lw_p40, List.forall_mem_cons.mpr ⟨lw_p41, List.forall_mem_cons.mpr ⟨lw_p42, List.forall_mem_cons.mpr ⟨lw_p43, List.forall_mem_cons.mpr ⟨lw_p44, List.forall_mem_cons.mpr ⟨lw_p45, List.forall_mem_cons.mpr ⟨lw_p46, List.forall_mem_cons.mpr ⟨lw_p47, fun _ h => absurd h List.not_mem_nil⟩⟩⟩⟩⟩⟩⟩⟩⟩⟩⟩⟩⟩⟩⟩⟩
theorem lw_p48 : lw_okq (⟨"GateMannersModel", "byteAt", "(I)I"⟩, 17) := ⟨⟨by decide +kernel, by decide +kernel⟩, List.mem_of_getElem? (i := 612) (by decide +kernel), List.mem_of_getElem? (i := 962) (by decide +kernel), List.mem_of_getElem? (i := 963) (by decide +kernel)⟩
theorem lw_p49 : lw_okq (⟨"GateMannersModel", "itemHere", "()Z"⟩, 17) := ⟨⟨by decide +kernel, by decide +kernel⟩, List.mem_of_getElem? (i := 612) (by decide +kernel), List.mem_of_getElem? (i := 972) (by decide +kernel), List.mem_of_getElem? (i := 973) (by decide +kernel)⟩
theorem lw_p50 : lw_okq (⟨"GateMannersModel", "kindHere", "()I"⟩, 17) := ⟨⟨by decide +kernel, by decide +kernel⟩, List.mem_of_getElem? (i := 612) (by decide +kernel), List.mem_of_getElem? (i := 976) (by decide +kernel), List.mem_of_getElem? (i := 977) (by decide +kernel)⟩
theorem lw_p51 : lw_okq (⟨"GateMannersModel", "isSix", "(IIIIII)Z"⟩, 17) := ⟨⟨by decide +kernel, by decide +kernel⟩, List.mem_of_getElem? (i := 612) (by decide +kernel), List.mem_of_getElem? (i := 980) (by decide +kernel), List.mem_of_getElem? (i := 981) (by decide +kernel)⟩
theorem lw_p52 : lw_okq (⟨"GateMannersModel", "isWord", "(I)Z"⟩, 17) := ⟨⟨by decide +kernel, by decide +kernel⟩, List.mem_of_getElem? (i := 612) (by decide +kernel), List.mem_of_getElem? (i := 984) (by decide +kernel), List.mem_of_getElem? (i := 985) (by decide +kernel)⟩
theorem lw_p53 : lw_okq (⟨"GateMannersModel", "has3", "(IIII)Z"⟩, 17) := ⟨⟨by decide +kernel, by decide +kernel⟩, List.mem_of_getElem? (i := 612) (by decide +kernel), List.mem_of_getElem? (i := 988) (by decide +kernel), List.mem_of_getElem? (i := 989) (by decide +kernel)⟩
theorem lw_p54 : lw_okq (⟨"GateMannersModel", "isFive", "(IIIII)Z"⟩, 17) := ⟨⟨by decide +kernel, by decide +kernel⟩, List.mem_of_getElem? (i := 612) (by decide +kernel), List.mem_of_getElem? (i := 992) (by decide +kernel), List.mem_of_getElem? (i := 993) (by decide +kernel)⟩
theorem lw_p55 : lw_okq (⟨"GateMannersModel", "isFour", "(IIII)Z"⟩, 17) := ⟨⟨by decide +kernel, by decide +kernel⟩, List.mem_of_getElem? (i := 612) (by decide +kernel), List.mem_of_getElem? (i := 996) (by decide +kernel), List.mem_of_getElem? (i := 997) (by decide +kernel)⟩
theorem lw_p56 : lw_okq (⟨"GateMannersModel", "walkerHere", "(I)Z"⟩, 17) := ⟨⟨by decide +kernel, by decide +kernel⟩, List.mem_of_getElem? (i := 612) (by decide +kernel), List.mem_of_getElem? (i := 1000) (by decide +kernel), List.mem_of_getElem? (i := 1001) (by decide +kernel)⟩
theorem lw_p57 : lw_okq (⟨"GateMannersModel", "fails", "()Z"⟩, 17) := ⟨⟨by decide +kernel, by decide +kernel⟩, List.mem_of_getElem? (i := 612) (by decide +kernel), List.mem_of_getElem? (i := 1004) (by decide +kernel), List.mem_of_getElem? (i := 1005) (by decide +kernel)⟩
theorem lw_p58 : lw_okq (⟨"GateMannersModel", "isNumber", "(II)Z"⟩, 17) := ⟨⟨by decide +kernel, by decide +kernel⟩, List.mem_of_getElem? (i := 612) (by decide +kernel), List.mem_of_getElem? (i := 1008) (by decide +kernel), List.mem_of_getElem? (i := 1009) (by decide +kernel)⟩
theorem lw_p59 : lw_okq (⟨"GateMannersModel", "standHere", "()I"⟩, 17) := ⟨⟨by decide +kernel, by decide +kernel⟩, List.mem_of_getElem? (i := 612) (by decide +kernel), List.mem_of_getElem? (i := 1012) (by decide +kernel), List.mem_of_getElem? (i := 1013) (by decide +kernel)⟩
theorem lw_p60 : lw_okq (⟨"GateMannersModel", "gateHere", "(I)Z"⟩, 17) := ⟨⟨by decide +kernel, by decide +kernel⟩, List.mem_of_getElem? (i := 612) (by decide +kernel), List.mem_of_getElem? (i := 1016) (by decide +kernel), List.mem_of_getElem? (i := 1017) (by decide +kernel)⟩
theorem lw_p61 : lw_okq (⟨"GateMannersModel", "beastsHere", "()Z"⟩, 17) := ⟨⟨by decide +kernel, by decide +kernel⟩, List.mem_of_getElem? (i := 612) (by decide +kernel), List.mem_of_getElem? (i := 1020) (by decide +kernel), List.mem_of_getElem? (i := 1021) (by decide +kernel)⟩
theorem lw_p62 : lw_okq (⟨"GateMannersModel", "windHere", "()Z"⟩, 17) := ⟨⟨by decide +kernel, by decide +kernel⟩, List.mem_of_getElem? (i := 612) (by decide +kernel), List.mem_of_getElem? (i := 1024) (by decide +kernel), List.mem_of_getElem? (i := 1025) (by decide +kernel)⟩
def lw_privs_4 : List (MethodName × Nat) := [(⟨"GateMannersModel", "byteAt", "(I)I"⟩, 17), (⟨"GateMannersModel", "itemHere", "()Z"⟩, 17), (⟨"GateMannersModel", "kindHere", "()I"⟩, 17), (⟨"GateMannersModel", "isSix", "(IIIIII)Z"⟩, 17), (⟨"GateMannersModel", "isWord", "(I)Z"⟩, 17), (⟨"GateMannersModel", "has3", "(IIII)Z"⟩, 17), (⟨"GateMannersModel", "isFive", "(IIIII)Z"⟩, 17), (⟨"GateMannersModel", "isFour", "(IIII)Z"⟩, 17), (⟨"GateMannersModel", "walkerHere", "(I)Z"⟩, 17), (⟨"GateMannersModel", "fails", "()Z"⟩, 17), (⟨"GateMannersModel", "isNumber", "(II)Z"⟩, 17), (⟨"GateMannersModel", "standHere", "()I"⟩, 17), (⟨"GateMannersModel", "gateHere", "(I)Z"⟩, 17), (⟨"GateMannersModel", "beastsHere", "()Z"⟩, 17), (⟨"GateMannersModel", "windHere", "()Z"⟩, 17)]
theorem lw_r4 : ∀ q ∈ lw_privs_4, lw_okq q := List.forall_mem_cons.mpr ⟨lw_p48, List.forall_mem_cons.mpr ⟨lw_p49, List.forall_mem_cons.mpr ⟨lw_p50, List.forall_mem_cons.mpr ⟨lw_p51, List.forall_mem_cons.mpr ⟨lw_p52, List.forall_mem_cons.mpr ⟨lw_p53, List.forall_mem_cons.mpr ⟨lw_p54, List.forall_mem_cons.mpr ⟨lw_p55, List.forall_mem_cons.mpr ⟨lw_p56, List.forall_mem_cons.mpr ⟨lw_p57, List.forall_mem_cons.mpr ⟨lw_p58, List.forall_mem_cons.mpr ⟨lw_p59, List.forall_mem_cons.mpr ⟨lw_p60, List.forall_mem_cons.mpr ⟨lw_p61, List.forall_mem_cons.mpr ⟨lw_p62, fun _ h => absurd h List.not_mem_nil⟩⟩⟩⟩⟩⟩⟩⟩⟩⟩⟩⟩⟩⟩⟩
def lw_privs : List (MethodName × Nat) := lw_privs_1 ++ (lw_privs_2 ++ (lw_privs_3 ++ (lw_privs_4)))
def lw_tbl : List Cond := k2_sels lw_privs ++ tables_1
theorem lw_privs_ok : ∀ q ∈ lw_privs, lw_okq q := by
  show ∀ q ∈ lw_privs_1 ++ (lw_privs_2 ++ (lw_privs_3 ++ (lw_privs_4))), lw_okq q
  exact List.forall_mem_append.mpr ⟨lw_r1, List.forall_mem_append.mpr ⟨lw_r2, List.forall_mem_append.mpr ⟨lw_r3, lw_r4⟩⟩⟩
end
section
def va_AOA (ty : FieldType) (U : State) : Prop := (Cond.arrayOver (.array ty)).before #[] U = true
theorem va_AOA.use {ty : FieldType} {A : Array Value} {U : State} (h : va_AOA ty U) : (Cond.arrayOver (.array ty)).before A U = true := h
/-! ===== BEGIN words of one list among another's, by their places ===== -/
theorem goodIn_r {big : List Cond} (ws : List Cond) (ps : List Nat) (hp : ws = ps.filterMap (fun i => big[i]?)) (h : ws.all goodWord = true) : GoodIn big ws := by
  intro w hw
  have h1 := List.all_eq_true.mp h w hw
  rw [hp] at hw
  obtain ⟨i, -, hi⟩ := List.mem_filterMap.mp hw
  have hm : w ∈ big := by first | exact List.mem_of_getElem? hi | exact List.getElem?_mem hi
  exact ⟨hm, good_of_word h1⟩
theorem goodIn_app {big a b : List Cond} (ha : GoodIn big a) (hb : GoodIn big b) : GoodIn big (a ++ b) := fun w h => (List.mem_append.mp h).elim (ha w) (hb w)
theorem goodIn_ca {big a b : List Cond} {c : Cond} (ha : GoodIn big (c :: a)) (hb : GoodIn big b) : GoodIn big (c :: (a ++ b)) := fun w h => (List.mem_cons.mp h).elim (fun e => ha w (List.mem_cons.mpr (Or.inl e))) (fun h => (List.mem_append.mp h).elim (fun h => ha w (List.mem_cons.mpr (Or.inr h))) (hb w))
theorem goodIn_sub {big ws : List Cond} (hm : ∀ w ∈ ws, w ∈ big) (h : ws.all goodWord = true) : GoodIn big ws := fun w hw => ⟨hm w hw, good_of_word (List.all_eq_true.mp h w hw)⟩
/-! ===== END ===== -/

/-! ===== BEGIN new T[n][m]: the outer array a place, the inner ones among the pooled ===== -/
/-- f, but v at every address of l -/
def vr_up {α : Type} (f : Nat → α) (l : List Nat) (v : α) : Nat → α := fun a => if a ∈ l then v else f a
theorem vr_up_in {α : Type} {f : Nat → α} {l : List Nat} {v : α} {a : Nat} (h : a ∈ l) : vr_up f l v a = v := if_pos h
theorem vr_up_ne {α : Type} {f : Nat → α} {l : List Nat} {v : α} {a : Nat} (h : a ∉ l) : vr_up f l v a = f a := if_neg h
theorem vr_rows {L l : List Nat} {f : Nat → va_E} {e : va_E} (h : ∀ a, a ∈ l → a ∉ L) : va_pl L f ++ l.map (fun a => (a, e)) = va_pl (L ++ l) (vr_up f l e) := by
  unfold va_pl
  rw [List.map_append]
  congr 1
  · apply List.map_congr_left
    intro a ha
    rw [vr_up_ne (fun q => h a q ha)]
  · apply List.map_congr_left
    intro a ha
    rw [vr_up_in ha]
theorem vr_lay {X rows : va_W} {x : Nat × va_E} {pl : va_W} {D : va_G} {cl : List vw_C} {H : Heap} (hP : va_P D cl (((X ++ pl) ++ [x]) ++ rows) H) : va_P D cl ((X ++ [x]) ++ (pl ++ rows)) H := by
  rw [List.append_assoc (X ++ pl)] at hP
  have h := va_P.swap hP
  rw [← List.append_assoc X] at h
  have h2 := va_P.swap h
  rw [List.append_assoc (X ++ [x])] at h2
  exact h2
theorem vr_layD {X rows : va_W} {x : Nat × va_E} {pl : va_W} {A : Nat → Prop} (hD : va_D A (((X ++ pl) ++ [x]) ++ rows)) : va_D A ((X ++ [x]) ++ (pl ++ rows)) := by
  rw [List.append_assoc (X ++ pl)] at hD
  have h := va_D.swap hD
  rw [← List.append_assoc X] at h
  have h2 := va_D.swap h
  rw [List.append_assoc (X ++ [x])] at h2
  exact h2
theorem vr_outer (c : ClassId) (N h0 : Nat) : ∀ i : Nat, Jvm.Free.Multi.outerC c N h0 i = arrV c N (fun j => va_rf (if j < i then some (h0 + 1 + j) else none))
  | 0 => by
    show ({ cls := c, slots := Array.replicate N .null, vm := .none } : Cell) = _
    rw [arrV_new]
    refine congrArg (arrV c N) (funext fun j => ?_)
    simp [va_rf]
  | i + 1 => by
    show (Jvm.Free.Multi.outerC c N h0 i).setSlot i (.ref (h0 + 1 + i)) = _
    rw [vr_outer c N h0 i, arrV_store]
    refine congrArg (arrV c N) (funext fun j => ?_)
    by_cases e : j = i
    · subst e
      simp [updV, va_rf]
    · by_cases h : j < i
      · simp [updV, e, h, Nat.lt_succ_of_lt h]
      · simp [updV, e, h, show ¬ j < i + 1 by omega]
section VGM
variable {p : Program} {l : Launch} {e : Env} {R : Room} {s : State} {m : MethodId} {args : Array Value} {below : List Frame} {meth : Method} {c : Code} {H : Heap} {locs : List Loc} {cells slots : Nat} {Q : State → Prop}
variable {cc : ByteArray} {pc : Nat} {ls : Array Slot} {rest : List Value} {D : va_G} {cl : List vw_C} {A : Nat → Prop} {a : Nat} {tys : List (ClassId × FieldType)} {ws : va_W} {H0 : Heap}
theorem va_mna {X : va_W} {L : List Nat} {f : Nat → va_E} {cc : ByteArray} (hexec : p.tables.exec = Jvm.exec) (hb : c.code = cc) {own : String} {index : Nat} {ty : FieldType} {cy : ClassId} (hown : s.vm.findClass own = some m.cls) (hclink : (Cond.classLink own index ("[" ++ (FieldType.array ty).toString)).before args s = true) (hover : va_AOA ty s) (harr : (Cond.arrayClass ty).before args s = true) (hcy : s.vm.findClass (FieldType.array ty).toString = some cy)
    (hK : va_K D cl tys s) (hP : va_P D cl (X ++ va_pl L f) H) (hD : va_D A (X ++ va_pl L f)) (hS : va_S A H0 H locs) (hA : ∀ q, H0.size ≤ q → A q) {n k : Int32} {N' K' : Nat} {z : vp_A} (hn : ¬ n < 0) (hk : ¬ k < 0) (hN : n.toNatClampNeg = N') (hM : k.toNatClampNeg = K')
    (hb1 : N' * 4 ≤ 536870912) (hb2 : K' * componentBytes ty ≤ 536870912) (hb3 : K' ≤ 536870912) (hdf : fits ty (defaultValue ty) = true) (hdd : (defaultValue ty).isDefault = true) (hcells : cells + (1 + N') ≤ R.cells) (hslots : slots + (N' + N' * K') ≤ R.slots) (hz : ∀ c : ClassId, Jvm.Free.Multi.innerC c K' (defaultValue ty) = vp_cell c z) (hdg : decode cc pc = .ok (.multianewarray index 2, 4))
    (kk : ∀ (q : Nat) (r : Nat → Nat) (cA : ClassId) (H1 : Heap), (∀ i j : Nat, i < N' → j < N' → r i = r j → i = j) → (∀ i : Nat, i < N' → r i ∉ L) → va_K D cl (tys ++ [(cA, .array ty)]) s →
      va_P D cl ((X ++ [(q, .inl (cA, N', .inr (.inr (.inr (.inr (fun i => if i < N' then some (r i) else none))))))]) ++ va_pl (L ++ (List.range N').map r) (vr_up f ((List.range N').map r) (.inl (cy, z)))) H1 → va_D A ((X ++ [(q, .inl (cA, N', .inr (.inr (.inr (.inr (fun i => if i < N' then some (r i) else none))))))]) ++ va_pl (L ++ (List.range N').map r) (vr_up f ((List.range N').map r) (.inl (cy, z)))) → va_S A H0 H1 locs →
      W p l e R s m args below meth c H1 locs (cells + 1 + N') (slots + N' + N' * K') Q (F0 m (pc + 4) ls (.ref q :: rest))) : W p l e R s m args below meth c H locs cells slots Q (F0 m pc ls (.int k :: .int n :: rest)) := by
  subst hN
  subst hM
  intro T hT Xs
  obtain ⟨vm₁, cA, comp, -, fA, fC, hO, -, X', step⟩ := Xs.multianewarray2F hexec hown hclink (va_AOA.use hover) harr (g := F0 m pc ls (.int k :: .int n :: rest)) rfl (by rw [hb]; exact hdg) rfl hn hk hb1 hb2 hb3 hdf hdd hcells hslots
  have ec : some cy = some comp := hcy.symm.trans fC
  cases ec
  generalize hF : Jvm.Free.Multi.fill (T.setVm vm₁) cA cy n.toNatClampNeg k.toNatClampNeg (defaultValue ty) n.toNatClampNeg = F at X' step
  have hTh : (T.setVm vm₁).heap = H := hT
  obtain ⟨f1, f2, -, -⟩ := Jvm.Free.Multi.fill_facts (T.setVm vm₁) cA cy n.toNatClampNeg k.toNatClampNeg (defaultValue ty) n.toNatClampNeg
  rw [hF, hTh] at f1 f2
  have hold : ∀ x : Nat, x < H.size → F.heap[x]? = H[x]? := fun x hx => by
    have := Jvm.Free.Multi.fill_old (T.setVm vm₁) cA cy n.toNatClampNeg k.toNatClampNeg (defaultValue ty) (a := x) (by rw [hTh]; exact hx) n.toNatClampNeg
    rw [hF, hTh] at this
    exact this
  have hrow : ∀ j : Nat, j < n.toNatClampNeg → F.heap[H.size + 1 + j]? = some (vp_cell cy z) := fun j hj => by
    have := Jvm.Free.Multi.fill_inner (T.setVm vm₁) cA cy n.toNatClampNeg k.toNatClampNeg (defaultValue ty) n.toNatClampNeg j hj
    rw [hF, hTh, hz] at this
    exact this
  have hout : Jvm.Free.Multi.outerC cA n.toNatClampNeg H.size n.toNatClampNeg = vp_cell cA (n.toNatClampNeg, .inr (.inr (.inr (.inr (fun i => if i < n.toNatClampNeg then some (H.size + 1 + i) else none))))) := by
    rw [vp_cell_q]
    exact vr_outer cA n.toNatClampNeg H.size n.toNatClampNeg
  rw [hout] at f2
  have hlt : ∀ a, a ∈ L → a < H.size := fun a ha => by
    obtain ⟨k9, hk9⟩ := va_pl_get (X := X) (f := f) ha
    exact (hP k9 _ hk9).lt
  have hnl : ∀ i : Nat, i < n.toNatClampNeg → H.size + 1 + i ∉ L := fun i _ h => by
    have := hlt _ h
    omega
  have hnm : ∀ a, a ∈ (List.range n.toNatClampNeg).map (fun i => H.size + 1 + i) → a ∉ L := fun a ha h => by
    obtain ⟨i, -, rfl⟩ := List.mem_map.mp ha
    have := hlt _ h
    omega
  have hP0 : va_P D cl (X ++ va_pl L f) F.heap := hP.kept (fun k9 x hx => hold x.1 ((hP k9 x hx).lt))
  have hP1 : va_P D cl ((X ++ va_pl L f) ++ [(H.size, .inl (cA, n.toNatClampNeg, .inr (.inr (.inr (.inr (fun i => if i < n.toNatClampNeg then some (H.size + 1 + i) else none))))))]) F.heap := hP0.app (fun k9 x hx => by
    have h0 : k9 < 1 := (List.getElem?_eq_some_iff.mp hx).1
    rw [show k9 = 0 by omega] at hx
    cases hx
    exact f2)
  have hP2 : va_P D cl (((X ++ va_pl L f) ++ [(H.size, .inl (cA, n.toNatClampNeg, .inr (.inr (.inr (.inr (fun i => if i < n.toNatClampNeg then some (H.size + 1 + i) else none))))))]) ++ ((List.range n.toNatClampNeg).map (fun i => H.size + 1 + i)).map (fun a => (a, .inl (cy, z)))) F.heap := hP1.app (fun k9 x hx => by
    obtain ⟨a, ha, rfl⟩ := List.mem_map.mp (List.mem_of_getElem? hx)
    obtain ⟨i, hi, rfl⟩ := List.mem_map.mp ha
    exact hrow i (List.mem_range.mp hi))
  have hD2 : va_D A (((X ++ va_pl L f) ++ [(H.size, .inl (cA, n.toNatClampNeg, .inr (.inr (.inr (.inr (fun i => if i < n.toNatClampNeg then some (H.size + 1 + i) else none))))))]) ++ ((List.range n.toNatClampNeg).map (fun i => H.size + 1 + i)).map (fun a => (a, .inl (cy, z)))) := by
    have hD1 := hD.push (e := .inl (cA, n.toNatClampNeg, .inr (.inr (.inr (.inr (fun i => if i < n.toNatClampNeg then some (H.size + 1 + i) else none)))))) hP rfl (hA _ hS.1)
    generalize hW1 : (X ++ va_pl L f) ++ [(H.size, .inl (cA, n.toNatClampNeg, .inr (.inr (.inr (.inr (fun i => if i < n.toNatClampNeg then some (H.size + 1 + i) else none))))))] = W1 at hD1 hP1 ⊢
    have hle : ∀ (k9 : Nat) (x : Nat × va_E), W1[k9]? = some x → x.1 ≤ H.size := fun k9 x hx => by
      rw [← hW1] at hx
      by_cases hl : k9 < (X ++ va_pl L f).length
      · rw [List.getElem?_append_left hl] at hx
        exact Nat.le_of_lt ((hP k9 x hx).lt)
      · rw [List.getElem?_append_right (by omega)] at hx
        have h0 : k9 - (X ++ va_pl L f).length < 1 := (List.getElem?_eq_some_iff.mp hx).1
        rw [show k9 - (X ++ va_pl L f).length = 0 by omega] at hx
        cases hx
        exact Nat.le_refl _
    have hr : ∀ (k9 : Nat) (x : Nat × va_E), (((List.range n.toNatClampNeg).map (fun i => H.size + 1 + i)).map (fun a => ((a, .inl (cy, z)) : Nat × va_E)))[k9]? = some x → x.1 = H.size + 1 + k9 := fun k9 x hx => by
      rw [List.getElem?_map, List.getElem?_map] at hx
      by_cases h9 : k9 < n.toNatClampNeg
      · rw [List.getElem?_range h9] at hx
        cases hx
        rfl
      · have hn0 : (List.range n.toNatClampNeg)[k9]? = none := List.getElem?_eq_none (by rw [List.length_range]; omega)
        rw [hn0] at hx
        cases hx
    refine ⟨fun i j x y hi hj hxy => ?_, fun k9 x hx => ?_⟩
    · by_cases h1 : i < W1.length <;> by_cases h2 : j < W1.length
      · rw [List.getElem?_append_left h1] at hi
        rw [List.getElem?_append_left h2] at hj
        exact hD1.1 i j x y hi hj hxy
      · rw [List.getElem?_append_left h1] at hi
        rw [List.getElem?_append_right (by omega)] at hj
        have := hle _ _ hi
        have := hr _ _ hj
        omega
      · rw [List.getElem?_append_right (by omega)] at hi
        rw [List.getElem?_append_left h2] at hj
        have := hle _ _ hj
        have := hr _ _ hi
        omega
      · rw [List.getElem?_append_right (by omega)] at hi hj
        have := hr _ _ hi
        have := hr _ _ hj
        omega
    · by_cases h1 : k9 < W1.length
      · rw [List.getElem?_append_left h1] at hx
        exact hD1.2 k9 x hx
      · rw [List.getElem?_append_right (by omega)] at hx
        have := hr _ _ hx
        exact hA _ (by have := hS.1; omega)
  have hAr : ArrOfT s cA (.array ty) := fun N9 z9 => by
    obtain ⟨-, k9, hk9, cm9, hkk9⟩ := (hO 0 0 0).1
    exact ⟨(fun q hq => by cases hq), k9, hk9, cm9, hkk9⟩
  have hK2 : va_K D cl (tys ++ [(cA, .array ty)]) s := ⟨hK.1, fun k9 x hx => by
    by_cases hl : k9 < tys.length
    · rw [List.getElem?_append_left hl] at hx
      exact hK.2 k9 x hx
    · rw [List.getElem?_append_right (by omega)] at hx
      have h0 : k9 - tys.length < 1 := (List.getElem?_eq_some_iff.mp hx).1
      rw [show k9 - tys.length = 0 by omega] at hx
      cases hx
      exact ⟨hAr, fA⟩⟩
  obtain ⟨t, a1, b1⟩ := kk H.size (fun i => H.size + 1 + i) cA F.heap (fun i j _ _ h => by have h9 : H.size + 1 + i = H.size + 1 + j := h; omega) hnl hK2 (by rw [← vr_rows hnm]; exact vr_lay hP2) (by rw [← vr_rows hnm]; exact vr_layD hD2) ⟨by rw [f1]; have := hS.1; omega, fun x h1 h2 => (hold x (Nat.lt_of_lt_of_le h1 hS.1)).trans (hS.2.1 x h1 h2), hS.2.2⟩ F rfl X'
  refine ⟨t, step t ?_, b1⟩
  have e : T.heap.size = H.size := by rw [hT]
  rw [e]
  exact a1
end VGM
/-! ===== END ===== -/

/-! ===== BEGIN printed: names, fields, word lists, decode rows ===== -/
def RX0 : String := "GateManners$Farm"
def TX0 : u_T := fun k => match k with
  | 0 => ("GateManners$Farm", "beastsIn", "[I", true)
  | 1 => ("GateManners$Farm", "standing", "[I", true)
  | 2 => ("GateManners$Farm", "parts", "[[I", true)
  | 3 => ("GateManners$Farm", "heldAt", "[I", true)
  | 4 => ("GateManners$Farm", "walkers", "I", false)
  | 5 => ("GateManners$Farm", "windNow", "I", false)
  | 6 => ("GateManners$Farm", "hour", "I", false)
  | _ => ("GateManners$Farm", "z", "I", false)
def tyX0 : Nat → FieldType := fun k => match k with
  | 0 => .array .int
  | 1 => .array .int
  | 2 => .array (.array .int)
  | 3 => .array .int
  | 4 => .int
  | 5 => .int
  | 6 => .int
  | _ => .int
theorem nmX0 : ∀ a, a < 8 → ∀ b, b < 8 → a ≠ b → (TX0 a).2.1 ≠ (TX0 b).2.1 := by decide +kernel
theorem tyX0_ok : ∀ k, k < 8 → parseFieldDescriptor (TX0 k).2.2.1 = some (tyX0 k) := by decide +kernel
abbrev cX0_init : ByteArray := prog_2_method_1_code
def yX0_init : MethodName := ⟨RX0, "<init>", "()V"⟩
abbrev cX0_become : ByteArray := prog_2_method_2_code
def yX0_become : MethodName := ⟨RX0, "become", "(LGateManners$Farm;)V"⟩
abbrev cX0_addWalker : ByteArray := prog_2_method_3_code
def yX0_addWalker : MethodName := ⟨RX0, "addWalker", "(II)I"⟩
abbrev cX0_leftBy : ByteArray := prog_2_method_4_code
def yX0_leftBy : MethodName := ⟨RX0, "leftBy", "(II)I"⟩
abbrev cX0_feltBy : ByteArray := prog_2_method_5_code
def yX0_feltBy : MethodName := ⟨RX0, "feltBy", "(II)I"⟩
abbrev cX0_goesOf : ByteArray := prog_2_method_6_code
def yX0_goesOf : MethodName := ⟨RX0, "goesOf", "(I)I"⟩
abbrev cX0_passHours : ByteArray := prog_2_method_7_code
def yX0_passHours : MethodName := ⟨RX0, "passHours", "(II)V"⟩
abbrev cX0_letGo : ByteArray := prog_2_method_8_code
def yX0_letGo : MethodName := ⟨RX0, "letGo", "(I)V"⟩
abbrev cX0_passOrTurn : ByteArray := prog_2_method_9_code
def yX0_passOrTurn : MethodName := ⟨RX0, "passOrTurn", "(I)V"⟩
abbrev cX0_moveBeasts : ByteArray := prog_2_method_10_code
def yX0_moveBeasts : MethodName := ⟨RX0, "moveBeasts", "()V"⟩
abbrev cX0_through : ByteArray := prog_2_method_11_code
def yX0_through : MethodName := ⟨RX0, "through", "(II)I"⟩
abbrev cX0_blowShut : ByteArray := prog_2_method_12_code
def yX0_blowShut : MethodName := ⟨RX0, "blowShut", "()V"⟩
abbrev cX0_draw : ByteArray := prog_2_method_13_code
def yX0_draw : MethodName := ⟨RX0, "draw", "()I"⟩
abbrev cX0_standsAsTold : ByteArray := prog_2_method_14_code
def yX0_standsAsTold : MethodName := ⟨RX0, "standsAsTold", "(LGateManners$Sheet;)Z"⟩
abbrev cX0_walkersIn : ByteArray := prog_2_method_15_code
def yX0_walkersIn : MethodName := ⟨RX0, "walkersIn", "(I)I"⟩
abbrev cX0_standingByFour : ByteArray := prog_2_method_16_code
def yX0_standingByFour : MethodName := ⟨RX0, "standingByFour", "()I"⟩
abbrev cX0_notShut : ByteArray := prog_2_method_17_code
def yX0_notShut : MethodName := ⟨RX0, "notShut", "()I"⟩
abbrev cX0_allBeasts : ByteArray := prog_2_method_18_code
def yX0_allBeasts : MethodName := ⟨RX0, "allBeasts", "()I"⟩
abbrev cX0_allPassed : ByteArray := prog_2_method_19_code
def yX0_allPassed : MethodName := ⟨RX0, "allPassed", "()I"⟩
abbrev cX0_fullestField : ByteArray := prog_2_method_20_code
def yX0_fullestField : MethodName := ⟨RX0, "fullestField", "()I"⟩
abbrev cX0_spotsInUse : ByteArray := prog_2_method_21_code
def yX0_spotsInUse : MethodName := ⟨RX0, "spotsInUse", "()I"⟩
def RX1 : String := "GateManners$Sheet"
def TX1 : u_T := fun k => match k with
  | 0 => ("GateManners$Sheet", "numbers", "[I", true)
  | 1 => ("GateManners$Sheet", "bits", "I", false)
  | _ => ("GateManners$Sheet", "size", "I", false)
def tyX1 : Nat → FieldType := fun k => match k with
  | 0 => .array .int
  | 1 => .int
  | _ => .int
theorem nmX1 : ∀ a, a < 3 → ∀ b, b < 3 → a ≠ b → (TX1 a).2.1 ≠ (TX1 b).2.1 := by decide +kernel
theorem tyX1_ok : ∀ k, k < 3 → parseFieldDescriptor (TX1 k).2.2.1 = some (tyX1 k) := by decide +kernel
abbrev cX1_init : ByteArray := prog_3_method_1_code
def yX1_init : MethodName := ⟨RX1, "<init>", "()V"⟩
abbrev cX1_isMissing : ByteArray := prog_3_method_2_code
def yX1_isMissing : MethodName := ⟨RX1, "isMissing", "()Z"⟩
abbrev cX1_clear : ByteArray := prog_3_method_3_code
def yX1_clear : MethodName := ⟨RX1, "clear", "(II)V"⟩
abbrev cX1_put : ByteArray := prog_3_method_4_code
def yX1_put : MethodName := ⟨RX1, "put", "(II)V"⟩
abbrev cX1_hasRow : ByteArray := prog_3_method_5_code
def yX1_hasRow : MethodName := ⟨RX1, "hasRow", "(II)Z"⟩
def RX2 : String := "GateManners$Tape"
def TX2 : u_T := fun k => match k with
  | 0 => ("GateManners$Tape", "bytes", "[B", true)
  | 1 => ("GateManners$Tape", "size", "I", false)
  | 2 => ("GateManners$Tape", "words", "[C", true)
  | 3 => ("GateManners$Tape", "sorts", "[I", true)
  | 4 => ("GateManners$Tape", "places", "[I", true)
  | 5 => ("GateManners$Tape", "lengths", "[I", true)
  | _ => ("GateManners$Tape", "next", "I", false)
def tyX2 : Nat → FieldType := fun k => match k with
  | 0 => .array .byte
  | 1 => .int
  | 2 => .array .char
  | 3 => .array .int
  | 4 => .array .int
  | 5 => .array .int
  | _ => .int
theorem nmX2 : ∀ a, a < 7 → ∀ b, b < 7 → a ≠ b → (TX2 a).2.1 ≠ (TX2 b).2.1 := by decide +kernel
theorem tyX2_ok : ∀ k, k < 7 → parseFieldDescriptor (TX2 k).2.2.1 = some (tyX2 k) := by decide +kernel
abbrev cX2_init : ByteArray := prog_4_method_1_code
def yX2_init : MethodName := ⟨RX2, "<init>", "()V"⟩
abbrev cX2_put : ByteArray := prog_4_method_2_code
def yX2_put : MethodName := ⟨RX2, "put", "(I)V"⟩
abbrev cX2_tellTo : ByteArray := prog_4_method_3_code
def yX2_tellTo : MethodName := ⟨RX2, "tellTo", "(LGateManners$Farm;)I"⟩
abbrev cX2_split : ByteArray := prog_4_method_4_code
def yX2_split : MethodName := ⟨RX2, "split", "()V"⟩
abbrev cX2_setToken : ByteArray := prog_4_method_5_code
def yX2_setToken : MethodName := ⟨RX2, "setToken", "(III)V"⟩
abbrev cX2_sortOf : ByteArray := prog_4_method_6_code
def yX2_sortOf : MethodName := ⟨RX2, "sortOf", "(B)I"⟩
abbrev cX2_takeItem : ByteArray := prog_4_method_7_code
def yX2_takeItem : MethodName := ⟨RX2, "takeItem", "(LGateManners$Farm;)Z"⟩
abbrev cX2_takeWalker : ByteArray := prog_4_method_8_code
def yX2_takeWalker : MethodName := ⟨RX2, "takeWalker", "(LGateManners$Farm;I)Z"⟩
abbrev cX2_takeGate : ByteArray := prog_4_method_9_code
def yX2_takeGate : MethodName := ⟨RX2, "takeGate", "(LGateManners$Farm;I)Z"⟩
abbrev cX2_takeBeasts : ByteArray := prog_4_method_10_code
def yX2_takeBeasts : MethodName := ⟨RX2, "takeBeasts", "(LGateManners$Farm;)Z"⟩
abbrev cX2_takeWind : ByteArray := prog_4_method_11_code
def yX2_takeWind : MethodName := ⟨RX2, "takeWind", "(LGateManners$Farm;)Z"⟩
abbrev cX2_takeWord : ByteArray := prog_4_method_12_code
def yX2_takeWord : MethodName := ⟨RX2, "takeWord", "(I)Z"⟩
abbrev cX2_takeNumber : ByteArray := prog_4_method_13_code
def yX2_takeNumber : MethodName := ⟨RX2, "takeNumber", "(I)I"⟩
abbrev cX2_wordAhead : ByteArray := prog_4_method_14_code
def yX2_wordAhead : MethodName := ⟨RX2, "wordAhead", "()I"⟩
abbrev cX2_isSpelt : ByteArray := prog_4_method_15_code
def yX2_isSpelt : MethodName := ⟨RX2, "isSpelt", "(I)Z"⟩
def RX3 : String := "GateManners"
def TX3 : u_T := fun k => match k with
  | 0 => ("GateManners", "farm", "LGateManners$Farm;", true)
  | 1 => ("GateManners", "trial", "LGateManners$Farm;", true)
  | 2 => ("GateManners", "kept", "LGateManners$Farm;", true)
  | 3 => ("GateManners", "isKept", "Z", false)
  | 4 => ("GateManners", "tape", "LGateManners$Tape;", true)
  | 5 => ("GateManners", "sheets", "[LGateManners$Sheet;", true)
  | _ => ("GateManners", "found", "[I", true)
def tyX3 : Nat → FieldType := fun k => match k with
  | 0 => .object "GateManners$Farm"
  | 1 => .object "GateManners$Farm"
  | 2 => .object "GateManners$Farm"
  | 3 => .boolean
  | 4 => .object "GateManners$Tape"
  | 5 => .array (.object "GateManners$Sheet")
  | _ => .array .int
theorem nmX3 : ∀ a, a < 7 → ∀ b, b < 7 → a ≠ b → (TX3 a).2.1 ≠ (TX3 b).2.1 := by decide +kernel
theorem tyX3_ok : ∀ k, k < 7 → parseFieldDescriptor (TX3 k).2.2.1 = some (tyX3 k) := by decide +kernel
abbrev cX3_init : ByteArray := prog_1_method_1_code
def yX3_init : MethodName := ⟨RX3, "<init>", "()V"⟩
abbrev cX3_beasts : ByteArray := prog_1_method_2_code
def yX3_beasts : MethodName := ⟨RX3, "beasts", "(II)I"⟩
abbrev cX3_field : ByteArray := prog_1_method_3_code
def yX3_field : MethodName := ⟨RX3, "field", "(II)I"⟩
abbrev cX3_gate : ByteArray := prog_1_method_4_code
def yX3_gate : MethodName := ⟨RX3, "gate", "(II)I"⟩
abbrev cX3_stands : ByteArray := prog_1_method_5_code
def yX3_stands : MethodName := ⟨RX3, "stands", "(I)I"⟩
abbrev cX3_wind : ByteArray := prog_1_method_6_code
def yX3_wind : MethodName := ⟨RX3, "wind", "(I)I"⟩
abbrev cX3_walker : ByteArray := prog_1_method_7_code
def yX3_walker : MethodName := ⟨RX3, "walker", "(II)I"⟩
abbrev cX3_of : ByteArray := prog_1_method_8_code
def yX3_of : MethodName := ⟨RX3, "of", "(II)I"⟩
abbrev cX3_change : ByteArray := prog_1_method_9_code
def yX3_change : MethodName := ⟨RX3, "change", "(III)I"⟩
abbrev cX3_leaves : ByteArray := prog_1_method_10_code
def yX3_leaves : MethodName := ⟨RX3, "leaves", "(III)I"⟩
abbrev cX3_go : ByteArray := prog_1_method_11_code
def yX3_go : MethodName := ⟨RX3, "go", "(I)I"⟩
abbrev cX3_now : ByteArray := prog_1_method_12_code
def yX3_now : MethodName := ⟨RX3, "now", "(I)I"⟩
abbrev cX3_ahead : ByteArray := prog_1_method_13_code
def yX3_ahead : MethodName := ⟨RX3, "ahead", "(II)I"⟩
abbrev cX3_stand : ByteArray := prog_1_method_14_code
def yX3_stand : MethodName := ⟨RX3, "stand", "(II)I"⟩
abbrev cX3_where : ByteArray := prog_1_method_15_code
def yX3_where : MethodName := ⟨RX3, "where", "(III)I"⟩
abbrev cX3_corn : ByteArray := prog_1_method_16_code
def yX3_corn : MethodName := ⟨RX3, "corn", "(II)I"⟩
abbrev cX3_when : ByteArray := prog_1_method_17_code
def yX3_when : MethodName := ⟨RX3, "when", "(II)I"⟩
abbrev cX3_meet : ByteArray := prog_1_method_18_code
def yX3_meet : MethodName := ⟨RX3, "meet", "(II)I"⟩
abbrev cX3_start : ByteArray := prog_1_method_19_code
def yX3_start : MethodName := ⟨RX3, "start", "(IIII)I"⟩
abbrev cX3_kindsFor : ByteArray := prog_1_method_20_code
def yX3_kindsFor : MethodName := ⟨RX3, "kindsFor", "(IIII)I"⟩
abbrev cX3_moods : ByteArray := prog_1_method_21_code
def yX3_moods : MethodName := ⟨RX3, "moods", "(IIII)I"⟩
abbrev cX3_windFor : ByteArray := prog_1_method_22_code
def yX3_windFor : MethodName := ⟨RX3, "windFor", "(III)I"⟩
abbrev cX3_home : ByteArray := prog_1_method_23_code
def yX3_home : MethodName := ⟨RX3, "home", "(III)I"⟩
abbrev cX3_shut : ByteArray := prog_1_method_24_code
def yX3_shut : MethodName := ⟨RX3, "shut", "(II)I"⟩
abbrev cX3_who : ByteArray := prog_1_method_25_code
def yX3_who : MethodName := ⟨RX3, "who", "(I)I"⟩
abbrev cX3_fits : ByteArray := prog_1_method_26_code
def yX3_fits : MethodName := ⟨RX3, "fits", "(III)I"⟩
abbrev cX3_kinds : ByteArray := prog_1_method_27_code
def yX3_kinds : MethodName := ⟨RX3, "kinds", "(II)I"⟩
abbrev cX3_gales : ByteArray := prog_1_method_28_code
def yX3_gales : MethodName := ⟨RX3, "gales", "(I)I"⟩
abbrev cX3_odds : ByteArray := prog_1_method_29_code
def yX3_odds : MethodName := ⟨RX3, "odds", "(II)J"⟩
abbrev cX3_seed : ByteArray := prog_1_method_30_code
def yX3_seed : MethodName := ⟨RX3, "seed", "(I)I"⟩
abbrev cX3_feed : ByteArray := prog_1_method_31_code
def yX3_feed : MethodName := ⟨RX3, "feed", "(II)I"⟩
abbrev cX3_wipe : ByteArray := prog_1_method_32_code
def yX3_wipe : MethodName := ⟨RX3, "wipe", "()I"⟩
abbrev cX3_text : ByteArray := prog_1_method_33_code
def yX3_text : MethodName := ⟨RX3, "text", "()I"⟩
abbrev cX3_hold : ByteArray := prog_1_method_34_code
def yX3_hold : MethodName := ⟨RX3, "hold", "(II)I"⟩
abbrev cX3_as : ByteArray := prog_1_method_35_code
def yX3_as : MethodName := ⟨RX3, "as", "(II)I"⟩
abbrev cX3_sheet : ByteArray := prog_1_method_36_code
def yX3_sheet : MethodName := ⟨RX3, "sheet", "(III)I"⟩
abbrev cX3_write : ByteArray := prog_1_method_37_code
def yX3_write : MethodName := ⟨RX3, "write", "(III)I"⟩
abbrev cX3_copy : ByteArray := prog_1_method_38_code
def yX3_copy : MethodName := ⟨RX3, "copy", "(IIIII)I"⟩
abbrev cX3_load : ByteArray := prog_1_method_39_code
def yX3_load : MethodName := ⟨RX3, "load", "(I)I"⟩
abbrev cX3_judge : ByteArray := prog_1_method_40_code
def yX3_judge : MethodName := ⟨RX3, "judge", "(I)I"⟩
abbrev cX3_image : ByteArray := prog_1_method_41_code
def yX3_image : MethodName := ⟨RX3, "image", "()I"⟩
abbrev cX3_undo : ByteArray := prog_1_method_42_code
def yX3_undo : MethodName := ⟨RX3, "undo", "()I"⟩
abbrev cX3_tear : ByteArray := prog_1_method_43_code
def yX3_tear : MethodName := ⟨RX3, "tear", "()I"⟩
abbrev cX3_count : ByteArray := prog_1_method_44_code
def yX3_count : MethodName := ⟨RX3, "count", "(I)I"⟩
abbrev cX3_status : ByteArray := prog_1_method_45_code
def yX3_status : MethodName := ⟨RX3, "status", "(I)I"⟩
abbrev cX3_finding : ByteArray := prog_1_method_46_code
def yX3_finding : MethodName := ⟨RX3, "finding", "(I)I"⟩
abbrev cX3_allFound : ByteArray := prog_1_method_47_code
def yX3_allFound : MethodName := ⟨RX3, "allFound", "()I"⟩
abbrev cX3_isIn : ByteArray := prog_1_method_48_code
def yX3_isIn : MethodName := ⟨RX3, "isIn", "(III)Z"⟩
abbrev cX3_isField : ByteArray := prog_1_method_49_code
def yX3_isField : MethodName := ⟨RX3, "isField", "(I)Z"⟩
abbrev cX3_isGate : ByteArray := prog_1_method_50_code
def yX3_isGate : MethodName := ⟨RX3, "isGate", "(I)Z"⟩
abbrev cX3_isManner : ByteArray := prog_1_method_51_code
def yX3_isManner : MethodName := ⟨RX3, "isManner", "(I)Z"⟩
abbrev cX3_isKind : ByteArray := prog_1_method_52_code
def yX3_isKind : MethodName := ⟨RX3, "isKind", "(I)Z"⟩
abbrev cX3_isSpot : ByteArray := prog_1_method_53_code
def yX3_isSpot : MethodName := ⟨RX3, "isSpot", "(I)Z"⟩
abbrev cX3_isSheet : ByteArray := prog_1_method_54_code
def yX3_isSheet : MethodName := ⟨RX3, "isSheet", "(I)Z"⟩
abbrev cX3_isWalker : ByteArray := prog_1_method_55_code
def yX3_isWalker : MethodName := ⟨RX3, "isWalker", "(I)Z"⟩
abbrev cX3_isWish : ByteArray := prog_1_method_56_code
def yX3_isWish : MethodName := ⟨RX3, "isWish", "(IIII)Z"⟩
abbrev cX3_wrongSheet : ByteArray := prog_1_method_57_code
def yX3_wrongSheet : MethodName := ⟨RX3, "wrongSheet", "(I)I"⟩
abbrev cX3_isUnder : ByteArray := prog_1_method_58_code
def yX3_isUnder : MethodName := ⟨RX3, "isUnder", "(II)Z"⟩
abbrev cX3_tryHours : ByteArray := prog_1_method_59_code
def yX3_tryHours : MethodName := ⟨RX3, "tryHours", "(I)V"⟩
abbrev cX3_valuesFor : ByteArray := prog_1_method_60_code
def yX3_valuesFor : MethodName := ⟨RX3, "valuesFor", "(IIIII)I"⟩
abbrev cX3_leastHome : ByteArray := prog_1_method_61_code
def yX3_leastHome : MethodName := ⟨RX3, "leastHome", "(IIII)I"⟩
abbrev cX3_feelsAsTold : ByteArray := prog_1_method_62_code
def yX3_feelsAsTold : MethodName := ⟨RX3, "feelsAsTold", "(LGateManners$Sheet;I)Z"⟩
abbrev cX3_power : ByteArray := prog_1_method_63_code
def yX3_power : MethodName := ⟨RX3, "power", "(II)J"⟩
def RX4 : String := "GateMannersModel"
def TX4 : u_T := fun k => match k with
  | 0 => ("GateMannersModel", "s", "[I", true)
  | 1 => ("GateMannersModel", "kept", "[I", true)
  | 2 => ("GateMannersModel", "before", "[I", true)
  | 3 => ("GateMannersModel", "aside", "[I", true)
  | 4 => ("GateMannersModel", "isKept", "Z", false)
  | 5 => ("GateMannersModel", "findings", "[I", true)
  | 6 => ("GateMannersModel", "tape", "[I", true)
  | 7 => ("GateMannersModel", "taped", "I", false)
  | 8 => ("GateMannersModel", "bitsOf", "[I", true)
  | 9 => ("GateMannersModel", "sizes", "[I", true)
  | 10 => ("GateMannersModel", "numbers", "[I", true)
  | 11 => ("GateMannersModel", "gone", "[I", true)
  | 12 => ("GateMannersModel", "token", "I", false)
  | 13 => ("GateMannersModel", "from", "I", false)
  | 14 => ("GateMannersModel", "to", "I", false)
  | 15 => ("GateMannersModel", "value", "I", false)
  | _ => ("GateMannersModel", "faultAt", "I", false)
def tyX4 : Nat → FieldType := fun k => match k with
  | 0 => .array .int
  | 1 => .array .int
  | 2 => .array .int
  | 3 => .array .int
  | 4 => .boolean
  | 5 => .array .int
  | 6 => .array .int
  | 7 => .int
  | 8 => .array .int
  | 9 => .array .int
  | 10 => .array .int
  | 11 => .array .int
  | 12 => .int
  | 13 => .int
  | 14 => .int
  | 15 => .int
  | _ => .int
theorem nmX4 : ∀ a, a < 17 → ∀ b, b < 17 → a ≠ b → (TX4 a).2.1 ≠ (TX4 b).2.1 := by decide +kernel
theorem tyX4_ok : ∀ k, k < 17 → parseFieldDescriptor (TX4 k).2.2.1 = some (tyX4 k) := by decide +kernel
abbrev cX4_init : ByteArray := prog_6_method_1_code
def yX4_init : MethodName := ⟨RX4, "<init>", "()V"⟩
abbrev cX4_isIn : ByteArray := prog_6_method_2_code
def yX4_isIn : MethodName := ⟨RX4, "isIn", "(JJJ)Z"⟩
abbrev cX4_finds : ByteArray := prog_6_method_3_code
def yX4_finds : MethodName := ⟨RX4, "finds", "(I)I"⟩
abbrev cX4_becomes : ByteArray := prog_6_method_4_code
def yX4_becomes : MethodName := ⟨RX4, "becomes", "(II)I"⟩
abbrev cX4_copyRow : ByteArray := prog_6_method_5_code
def yX4_copyRow : MethodName := ⟨RX4, "copyRow", "([I[I)V"⟩
abbrev cX4_isField : ByteArray := prog_6_method_6_code
def yX4_isField : MethodName := ⟨RX4, "isField", "(I)Z"⟩
abbrev cX4_isGate : ByteArray := prog_6_method_7_code
def yX4_isGate : MethodName := ⟨RX4, "isGate", "(I)Z"⟩
abbrev cX4_isStand : ByteArray := prog_6_method_8_code
def yX4_isStand : MethodName := ⟨RX4, "isStand", "(I)Z"⟩
abbrev cX4_isWalker : ByteArray := prog_6_method_9_code
def yX4_isWalker : MethodName := ⟨RX4, "isWalker", "(I)Z"⟩
abbrev cX4_at : ByteArray := prog_6_method_10_code
def yX4_at : MethodName := ⟨RX4, "at", "(II)I"⟩
abbrev cX4_its : ByteArray := prog_6_method_11_code
def yX4_its : MethodName := ⟨RX4, "its", "(II)I"⟩
abbrev cX4_least : ByteArray := prog_6_method_12_code
def yX4_least : MethodName := ⟨RX4, "least", "(II)I"⟩
abbrev cX4_orNone : ByteArray := prog_6_method_13_code
def yX4_orNone : MethodName := ⟨RX4, "orNone", "(I)I"⟩
abbrev cX4_many : ByteArray := prog_6_method_14_code
def yX4_many : MethodName := ⟨RX4, "many", "(I)I"⟩
abbrev cX4_beasts : ByteArray := prog_6_method_15_code
def yX4_beasts : MethodName := ⟨RX4, "beasts", "(II)I"⟩
abbrev cX4_there : ByteArray := prog_6_method_16_code
def yX4_there : MethodName := ⟨RX4, "there", "(I)I"⟩
abbrev cX4_field : ByteArray := prog_6_method_17_code
def yX4_field : MethodName := ⟨RX4, "field", "(II)I"⟩
abbrev cX4_gate : ByteArray := prog_6_method_18_code
def yX4_gate : MethodName := ⟨RX4, "gate", "(II)I"⟩
abbrev cX4_stands : ByteArray := prog_6_method_19_code
def yX4_stands : MethodName := ⟨RX4, "stands", "(I)I"⟩
abbrev cX4_wind : ByteArray := prog_6_method_20_code
def yX4_wind : MethodName := ⟨RX4, "wind", "(I)I"⟩
abbrev cX4_comes : ByteArray := prog_6_method_21_code
def yX4_comes : MethodName := ⟨RX4, "comes", "(II)V"⟩
abbrev cX4_walker : ByteArray := prog_6_method_22_code
def yX4_walker : MethodName := ⟨RX4, "walker", "(II)I"⟩
abbrev cX4_leavesIt : ByteArray := prog_6_method_23_code
def yX4_leavesIt : MethodName := ⟨RX4, "leavesIt", "(II)I"⟩
abbrev cX4_feels : ByteArray := prog_6_method_24_code
def yX4_feels : MethodName := ⟨RX4, "feels", "(II)I"⟩
abbrev cX4_goesFar : ByteArray := prog_6_method_25_code
def yX4_goesFar : MethodName := ⟨RX4, "goesFar", "(I)I"⟩
abbrev cX4_of : ByteArray := prog_6_method_26_code
def yX4_of : MethodName := ⟨RX4, "of", "(II)I"⟩
abbrev cX4_greatestOf : ByteArray := prog_6_method_27_code
def yX4_greatestOf : MethodName := ⟨RX4, "greatestOf", "(I)I"⟩
abbrev cX4_change : ByteArray := prog_6_method_28_code
def yX4_change : MethodName := ⟨RX4, "change", "(III)I"⟩
abbrev cX4_leaves : ByteArray := prog_6_method_29_code
def yX4_leaves : MethodName := ⟨RX4, "leaves", "(III)I"⟩
abbrev cX4_walks : ByteArray := prog_6_method_30_code
def yX4_walks : MethodName := ⟨RX4, "walks", "(I)V"⟩
abbrev cX4_wander : ByteArray := prog_6_method_31_code
def yX4_wander : MethodName := ⟨RX4, "wander", "()V"⟩
abbrev cX4_hourBut : ByteArray := prog_6_method_32_code
def yX4_hourBut : MethodName := ⟨RX4, "hourBut", "(I)V"⟩
abbrev cX4_goes : ByteArray := prog_6_method_33_code
def yX4_goes : MethodName := ⟨RX4, "goes", "(I)V"⟩
abbrev cX4_allStand : ByteArray := prog_6_method_34_code
def yX4_allStand : MethodName := ⟨RX4, "allStand", "()I"⟩
abbrev cX4_go : ByteArray := prog_6_method_35_code
def yX4_go : MethodName := ⟨RX4, "go", "(I)I"⟩
abbrev cX4_beastsAll : ByteArray := prog_6_method_36_code
def yX4_beastsAll : MethodName := ⟨RX4, "beastsAll", "()I"⟩
abbrev cX4_notShut : ByteArray := prog_6_method_37_code
def yX4_notShut : MethodName := ⟨RX4, "notShut", "()I"⟩
abbrev cX4_passedAll : ByteArray := prog_6_method_38_code
def yX4_passedAll : MethodName := ⟨RX4, "passedAll", "()I"⟩
abbrev cX4_fullest : ByteArray := prog_6_method_39_code
def yX4_fullest : MethodName := ⟨RX4, "fullest", "()I"⟩
abbrev cX4_now : ByteArray := prog_6_method_40_code
def yX4_now : MethodName := ⟨RX4, "now", "(I)I"⟩
abbrev cX4_thenAt : ByteArray := prog_6_method_41_code
def yX4_thenAt : MethodName := ⟨RX4, "thenAt", "(II)I"⟩
abbrev cX4_ahead : ByteArray := prog_6_method_42_code
def yX4_ahead : MethodName := ⟨RX4, "ahead", "(II)I"⟩
abbrev cX4_stand : ByteArray := prog_6_method_43_code
def yX4_stand : MethodName := ⟨RX4, "stand", "(II)I"⟩
abbrev cX4_where : ByteArray := prog_6_method_44_code
def yX4_where : MethodName := ⟨RX4, "where", "(III)I"⟩
abbrev cX4_corn : ByteArray := prog_6_method_45_code
def yX4_corn : MethodName := ⟨RX4, "corn", "(II)I"⟩
abbrev cX4_when : ByteArray := prog_6_method_46_code
def yX4_when : MethodName := ⟨RX4, "when", "(II)I"⟩
abbrev cX4_meet : ByteArray := prog_6_method_47_code
def yX4_meet : MethodName := ⟨RX4, "meet", "(II)I"⟩
abbrev cX4_isAsked : ByteArray := prog_6_method_48_code
def yX4_isAsked : MethodName := ⟨RX4, "isAsked", "(IIII)Z"⟩
abbrev cX4_withWhich : ByteArray := prog_6_method_49_code
def yX4_withWhich : MethodName := ⟨RX4, "withWhich", "(IIIII)I"⟩
abbrev cX4_lowest : ByteArray := prog_6_method_50_code
def yX4_lowest : MethodName := ⟨RX4, "lowest", "(I)I"⟩
abbrev cX4_start : ByteArray := prog_6_method_51_code
def yX4_start : MethodName := ⟨RX4, "start", "(IIII)I"⟩
abbrev cX4_kindsFor : ByteArray := prog_6_method_52_code
def yX4_kindsFor : MethodName := ⟨RX4, "kindsFor", "(IIII)I"⟩
abbrev cX4_moods : ByteArray := prog_6_method_53_code
def yX4_moods : MethodName := ⟨RX4, "moods", "(IIII)I"⟩
abbrev cX4_windFor : ByteArray := prog_6_method_54_code
def yX4_windFor : MethodName := ⟨RX4, "windFor", "(III)I"⟩
abbrev cX4_home : ByteArray := prog_6_method_55_code
def yX4_home : MethodName := ⟨RX4, "home", "(III)I"⟩
abbrev cX4_shut : ByteArray := prog_6_method_56_code
def yX4_shut : MethodName := ⟨RX4, "shut", "(II)I"⟩
abbrev cX4_isTold : ByteArray := prog_6_method_57_code
def yX4_isTold : MethodName := ⟨RX4, "isTold", "(III)Z"⟩
abbrev cX4_allBut : ByteArray := prog_6_method_58_code
def yX4_allBut : MethodName := ⟨RX4, "allBut", "(I)I"⟩
abbrev cX4_who : ByteArray := prog_6_method_59_code
def yX4_who : MethodName := ⟨RX4, "who", "(I)I"⟩
abbrev cX4_fits : ByteArray := prog_6_method_60_code
def yX4_fits : MethodName := ⟨RX4, "fits", "(III)I"⟩
abbrev cX4_isInMood : ByteArray := prog_6_method_61_code
def yX4_isInMood : MethodName := ⟨RX4, "isInMood", "(II)Z"⟩
abbrev cX4_kinds : ByteArray := prog_6_method_62_code
def yX4_kinds : MethodName := ⟨RX4, "kinds", "(II)I"⟩
abbrev cX4_draw : ByteArray := prog_6_method_63_code
def yX4_draw : MethodName := ⟨RX4, "draw", "()I"⟩
abbrev cX4_gales : ByteArray := prog_6_method_64_code
def yX4_gales : MethodName := ⟨RX4, "gales", "(I)I"⟩
abbrev cX4_odds : ByteArray := prog_6_method_65_code
def yX4_odds : MethodName := ⟨RX4, "odds", "(II)J"⟩
abbrev cX4_seed : ByteArray := prog_6_method_66_code
def yX4_seed : MethodName := ⟨RX4, "seed", "(I)I"⟩
abbrev cX4_feed : ByteArray := prog_6_method_67_code
def yX4_feed : MethodName := ⟨RX4, "feed", "(II)I"⟩
abbrev cX4_wipe : ByteArray := prog_6_method_68_code
def yX4_wipe : MethodName := ⟨RX4, "wipe", "()I"⟩
abbrev cX4_isLetter : ByteArray := prog_6_method_69_code
def yX4_isLetter : MethodName := ⟨RX4, "isLetter", "(I)Z"⟩
abbrev cX4_isDigit : ByteArray := prog_6_method_70_code
def yX4_isDigit : MethodName := ⟨RX4, "isDigit", "(I)Z"⟩
abbrev cX4_byteAt : ByteArray := prog_6_method_71_code
def yX4_byteAt : MethodName := ⟨RX4, "byteAt", "(I)I"⟩
abbrev cX4_nextToken : ByteArray := prog_6_method_72_code
def yX4_nextToken : MethodName := ⟨RX4, "nextToken", "()V"⟩
abbrev cX4_has3 : ByteArray := prog_6_method_73_code
def yX4_has3 : MethodName := ⟨RX4, "has3", "(IIII)Z"⟩
abbrev cX4_isWord : ByteArray := prog_6_method_74_code
def yX4_isWord : MethodName := ⟨RX4, "isWord", "(I)Z"⟩
abbrev cX4_fails : ByteArray := prog_6_method_75_code
def yX4_fails : MethodName := ⟨RX4, "fails", "()Z"⟩
abbrev cX4_isFour : ByteArray := prog_6_method_76_code
def yX4_isFour : MethodName := ⟨RX4, "isFour", "(IIII)Z"⟩
abbrev cX4_isFive : ByteArray := prog_6_method_77_code
def yX4_isFive : MethodName := ⟨RX4, "isFive", "(IIIII)Z"⟩
abbrev cX4_isSix : ByteArray := prog_6_method_78_code
def yX4_isSix : MethodName := ⟨RX4, "isSix", "(IIIIII)Z"⟩
abbrev cX4_isNumber : ByteArray := prog_6_method_79_code
def yX4_isNumber : MethodName := ⟨RX4, "isNumber", "(II)Z"⟩
abbrev cX4_kindHere : ByteArray := prog_6_method_80_code
def yX4_kindHere : MethodName := ⟨RX4, "kindHere", "()I"⟩
abbrev cX4_standHere : ByteArray := prog_6_method_81_code
def yX4_standHere : MethodName := ⟨RX4, "standHere", "()I"⟩
abbrev cX4_walkerHere : ByteArray := prog_6_method_82_code
def yX4_walkerHere : MethodName := ⟨RX4, "walkerHere", "(I)Z"⟩
abbrev cX4_gateHere : ByteArray := prog_6_method_83_code
def yX4_gateHere : MethodName := ⟨RX4, "gateHere", "(I)Z"⟩
abbrev cX4_beastsHere : ByteArray := prog_6_method_84_code
def yX4_beastsHere : MethodName := ⟨RX4, "beastsHere", "()Z"⟩
abbrev cX4_windHere : ByteArray := prog_6_method_85_code
def yX4_windHere : MethodName := ⟨RX4, "windHere", "()Z"⟩
abbrev cX4_itemHere : ByteArray := prog_6_method_86_code
def yX4_itemHere : MethodName := ⟨RX4, "itemHere", "()Z"⟩
abbrev cX4_text : ByteArray := prog_6_method_87_code
def yX4_text : MethodName := ⟨RX4, "text", "()I"⟩
abbrev cX4_hold : ByteArray := prog_6_method_88_code
def yX4_hold : MethodName := ⟨RX4, "hold", "(II)I"⟩
abbrev cX4_isUnder : ByteArray := prog_6_method_89_code
def yX4_isUnder : MethodName := ⟨RX4, "isUnder", "(II)Z"⟩
abbrev cX4_as : ByteArray := prog_6_method_90_code
def yX4_as : MethodName := ⟨RX4, "as", "(II)I"⟩
abbrev cX4_isSheet : ByteArray := prog_6_method_91_code
def yX4_isSheet : MethodName := ⟨RX4, "isSheet", "(I)Z"⟩
abbrev cX4_sheet : ByteArray := prog_6_method_92_code
def yX4_sheet : MethodName := ⟨RX4, "sheet", "(III)I"⟩
abbrev cX4_write : ByteArray := prog_6_method_93_code
def yX4_write : MethodName := ⟨RX4, "write", "(III)I"⟩
abbrev cX4_copy : ByteArray := prog_6_method_94_code
def yX4_copy : MethodName := ⟨RX4, "copy", "(IIIII)I"⟩
abbrev cX4_wants : ByteArray := prog_6_method_95_code
def yX4_wants : MethodName := ⟨RX4, "wants", "(I)I"⟩
abbrev cX4_load : ByteArray := prog_6_method_96_code
def yX4_load : MethodName := ⟨RX4, "load", "(I)I"⟩
abbrev cX4_judge : ByteArray := prog_6_method_97_code
def yX4_judge : MethodName := ⟨RX4, "judge", "(I)I"⟩
abbrev cX4_image : ByteArray := prog_6_method_98_code
def yX4_image : MethodName := ⟨RX4, "image", "()I"⟩
abbrev cX4_undo : ByteArray := prog_6_method_99_code
def yX4_undo : MethodName := ⟨RX4, "undo", "()I"⟩
abbrev cX4_tear : ByteArray := prog_6_method_100_code
def yX4_tear : MethodName := ⟨RX4, "tear", "()I"⟩
abbrev cX4_count : ByteArray := prog_6_method_101_code
def yX4_count : MethodName := ⟨RX4, "count", "(I)I"⟩
abbrev cX4_status : ByteArray := prog_6_method_102_code
def yX4_status : MethodName := ⟨RX4, "status", "(I)I"⟩
def RJ6 : String := "java/lang/Integer"
def TJ6 : u_T := fun k => match k with
  | _ => ("", "", "", false)
def tyJ6 : Nat → FieldType := fun k => match k with
  | _ => .int
abbrev cJ6_numberOfTrailingZeros_0f7a4 : ByteArray := prog_7_method_48_code
def yJ6_numberOfTrailingZeros_0f7a4 : MethodName := ⟨RJ6, "numberOfTrailingZeros", "(I)I"⟩
abbrev cJ6_bitCount_0f7a4 : ByteArray := prog_7_method_49_code
def yJ6_bitCount_0f7a4 : MethodName := ⟨RJ6, "bitCount", "(I)I"⟩
def RJ9 : String := "java/lang/Math"
def TJ9 : u_T := fun k => match k with
  | _ => ("", "", "", false)
def tyJ9 : Nat → FieldType := fun k => match k with
  | _ => .int
abbrev cJ9_max_7cf53 : ByteArray := prog_8_method_65_code
def yJ9_max_7cf53 : MethodName := ⟨RJ9, "max", "(II)I"⟩
abbrev cJ9_min_7cf53 : ByteArray := prog_8_method_69_code
def yJ9_min_7cf53 : MethodName := ⟨RJ9, "min", "(II)I"⟩
def RJ0 : String := "java/lang/String"
def TJ0 : u_T := fun k => match k with
  | _ => ("", "", "", false)
def tyJ0 : Nat → FieldType := fun k => match k with
  | _ => .int
abbrev cJ0_toCharArray_70df3 : ByteArray := prog_9_method_129_code
def yJ0_toCharArray_70df3 : MethodName := ⟨RJ0, "toCharArray", "()[C"⟩
abbrev cJ0_isLatin1_aae02 : ByteArray := prog_9_method_154_code
def yJ0_isLatin1_aae02 : MethodName := ⟨RJ0, "isLatin1", "()Z"⟩
abbrev cJ0_checkBoundsOffCount_cabcc : ByteArray := prog_9_method_157_code
def yJ0_checkBoundsOffCount_cabcc : MethodName := ⟨RJ0, "checkBoundsOffCount", "(III)I"⟩
def RJ1 : String := "java/lang/StringLatin1"
def TJ1 : u_T := fun k => match k with
  | _ => ("", "", "", false)
def tyJ1 : Nat → FieldType := fun k => match k with
  | _ => .int
abbrev cJ1_toChars_9d188 : ByteArray := prog_10_method_9_code
def yJ1_toChars_9d188 : MethodName := ⟨RJ1, "toChars", "([B)[C"⟩
abbrev cJ1_inflate_03870 : ByteArray := prog_10_method_49_code
def yJ1_inflate_03870 : MethodName := ⟨RJ1, "inflate", "([BI[CII)V"⟩
def RJ2 : String := "java/lang/StringUTF16"
def TJ2 : u_T := fun k => match k with
  | _ => ("", "", "", false)
def tyJ2 : Nat → FieldType := fun k => match k with
  | _ => .int
abbrev cJ2_getChar_3b067 : ByteArray := prog_11_method_5_code
def yJ2_getChar_3b067 : MethodName := ⟨RJ2, "getChar", "([BI)C"⟩
abbrev cJ2_length_9d52b : ByteArray := prog_11_method_6_code
def yJ2_length_9d52b : MethodName := ⟨RJ2, "length", "([B)I"⟩
abbrev cJ2_toChars_9d188 : ByteArray := prog_11_method_13_code
def yJ2_toChars_9d188 : MethodName := ⟨RJ2, "toChars", "([B)[C"⟩
abbrev cJ2_getChars_a1a8b : ByteArray := prog_11_method_26_code
def yJ2_getChars_a1a8b : MethodName := ⟨RJ2, "getChars", "([BII[CI)V"⟩
abbrev cJ2_checkBoundsOffCount_d044e : ByteArray := prog_11_method_94_code
def yJ2_checkBoundsOffCount_d044e : MethodName := ⟨RJ2, "checkBoundsOffCount", "(II[B)V"⟩
def RJ10 : String := "java/lang/System"
def TJ10 : u_T := fun k => match k with
  | _ => ("", "", "", false)
def tyJ10 : Nat → FieldType := fun k => match k with
  | _ => .int
def RJ3 : String := "jdk/internal/util/Preconditions"
def TJ3 : u_T := fun k => match k with
  | _ => ("", "", "", false)
def tyJ3 : Nat → FieldType := fun k => match k with
  | _ => .int
abbrev cJ3_checkFromIndexSize_8c36e : ByteArray := prog_13_method_13_code
def yJ3_checkFromIndexSize_8c36e : MethodName := ⟨RJ3, "checkFromIndexSize", "(IIILjava/util/function/BiFunction;)I"⟩
def RL : String := "GateMannersLaw"
abbrev cL_law : ByteArray := code
def yL_law : MethodName := ⟨RL, "law", "([I)Z"⟩
abbrev vwCl : List vw_C := [(RX0, TX0, 8), (RX1, TX1, 3), (RX2, TX2, 7), (RX3, TX3, 7), (RX4, TX4, 17)]
end
section
def tw_T : List Cond := lw_tbl.filter goodWord
theorem tw_in : ∀ w ∈ tw_T, w ∈ lw_tbl := fun _ h => (List.mem_filter.mp h).1
theorem tw_good : ∀ w ∈ tw_T, goodWord w = true := fun _ h => (List.mem_filter.mp h).2
theorem tw_1 : ∀ w ∈ tables_1_1, goodWord w = true → w ∈ tw_T := fun _ h g => List.mem_filter.mpr ⟨List.mem_append_right _ (List.mem_append_left _ h), g⟩
theorem tw_2 : ∀ w ∈ tables_1_2, goodWord w = true → w ∈ tw_T := fun _ h g => List.mem_filter.mpr ⟨List.mem_append_right _ (List.mem_append_right _ (List.mem_append_left _ h)), g⟩
theorem tw_3 : ∀ w ∈ tables_1_3, goodWord w = true → w ∈ tw_T := fun _ h g => List.mem_filter.mpr ⟨List.mem_append_right _ (List.mem_append_right _ (List.mem_append_right _ (List.mem_append_left _ h))), g⟩
theorem tw_4 : ∀ w ∈ tables_1_4, goodWord w = true → w ∈ tw_T := fun _ h g => List.mem_filter.mpr ⟨List.mem_append_right _ (List.mem_append_right _ (List.mem_append_right _ (List.mem_append_right _ (List.mem_append_left _ h)))), g⟩
theorem tw_5 : ∀ w ∈ tables_1_5, goodWord w = true → w ∈ tw_T := fun _ h g => List.mem_filter.mpr ⟨List.mem_append_right _ (List.mem_append_right _ (List.mem_append_right _ (List.mem_append_right _ (List.mem_append_right _ h)))), g⟩
theorem in_L : Cond.initialized RL ∈ tw_T := tw_1 _ (List.mem_of_getElem? (i := 0) rfl) rfl
theorem in_X3 : Cond.initialized RX3 ∈ tw_T := tw_1 _ (List.mem_of_getElem? (i := 1) rfl) rfl
theorem in_X0 : Cond.initialized RX0 ∈ tw_T := tw_1 _ (List.mem_of_getElem? (i := 2) rfl) rfl
theorem in_X2 : Cond.initialized RX2 ∈ tw_T := tw_1 _ (List.mem_of_getElem? (i := 3) rfl) rfl
theorem in_J0 : Cond.initialized RJ0 ∈ tw_T := tw_1 _ (List.mem_of_getElem? (i := 4) rfl) rfl
theorem in_J1 : Cond.initialized RJ1 ∈ tw_T := tw_1 _ (List.mem_of_getElem? (i := 5) rfl) rfl
theorem in_J2 : Cond.initialized RJ2 ∈ tw_T := tw_1 _ (List.mem_of_getElem? (i := 6) rfl) rfl
theorem in_J3 : Cond.initialized RJ3 ∈ tw_T := tw_1 _ (List.mem_of_getElem? (i := 7) rfl) rfl
theorem in_X1 : Cond.initialized RX1 ∈ tw_T := tw_1 _ (List.mem_of_getElem? (i := 8) rfl) rfl
theorem in_X4 : Cond.initialized RX4 ∈ tw_T := tw_1 _ (List.mem_of_getElem? (i := 9) rfl) rfl
theorem in_J9 : Cond.initialized RJ9 ∈ tw_T := tw_1 _ (List.mem_of_getElem? (i := 10) rfl) rfl
theorem in_J10 : Cond.initialized RJ10 ∈ tw_T := tw_1 _ (List.mem_of_getElem? (i := 11) rfl) rfl
theorem in_J6 : Cond.initialized RJ6 ∈ tw_T := tw_1 _ (List.mem_of_getElem? (i := 12) rfl) rfl
theorem cl_L_7 : Cond.classLink RL 7 RX3 ∈ tw_T := tw_1 _ (List.mem_of_getElem? (i := 13) rfl) rfl
theorem it_X3 : Cond.instantiable RX3 7 ∈ tw_T := tw_1 _ (List.mem_of_getElem? (i := 14) rfl) rfl
theorem ml_L_9 : Cond.methodLink RL 9 yX3_init ∈ tw_T := tw_1 _ (List.mem_of_getElem? (i := 15) rfl) rfl
theorem ml_X3_3 : Cond.methodLink RX3 3 objectInit ∈ tw_T := tw_1 _ (List.mem_of_getElem? (i := 18) rfl) rfl
theorem cl_X3_9 : Cond.classLink RX3 9 RX0 ∈ tw_T := tw_1 _ (List.mem_of_getElem? (i := 21) rfl) rfl
theorem it_X0 : Cond.instantiable RX0 8 ∈ tw_T := tw_1 _ (List.mem_of_getElem? (i := 22) rfl) rfl
theorem ml_X3_11 : Cond.methodLink RX3 11 yX0_init ∈ tw_T := tw_1 _ (List.mem_of_getElem? (i := 23) rfl) rfl
theorem ml_X0_3 : Cond.methodLink RX0 3 objectInit ∈ tw_T := tw_1 _ (List.mem_of_getElem? (i := 26) rfl) rfl
theorem cl_X0_18 : Cond.classLink RX0 18 "[[I" ∈ tw_T := tw_1 _ (List.mem_of_getElem? (i := 27) rfl) rfl
theorem ao_I : Cond.arrayOver (.array .int) ∈ lw_tbl := List.mem_append_right _ (List.mem_append_left _ (List.mem_of_getElem? (i := 28) rfl))
theorem fl_X0_9 : Cond.fieldLink RX0 9 "GateManners$Farm" "beastsIn" "[I" ∈ tw_T := tw_1 _ (List.mem_of_getElem? (i := 29) rfl) rfl
theorem fl_X3_56 : Cond.fieldLink RX3 56 "GateManners$Farm" "beastsIn" "[I" ∈ tw_T := tw_1 _ (List.mem_of_getElem? (i := 30) rfl) rfl
theorem fl_X2_97 : Cond.fieldLink RX2 97 "GateManners$Farm" "beastsIn" "[I" ∈ tw_T := tw_1 _ (List.mem_of_getElem? (i := 31) rfl) rfl
theorem fl_X0_15 : Cond.fieldLink RX0 15 "GateManners$Farm" "standing" "[I" ∈ tw_T := tw_1 _ (List.mem_of_getElem? (i := 32) rfl) rfl
theorem fl_X3_68 : Cond.fieldLink RX3 68 "GateManners$Farm" "standing" "[I" ∈ tw_T := tw_1 _ (List.mem_of_getElem? (i := 33) rfl) rfl
theorem fl_X2_94 : Cond.fieldLink RX2 94 "GateManners$Farm" "standing" "[I" ∈ tw_T := tw_1 _ (List.mem_of_getElem? (i := 34) rfl) rfl
theorem fl_X0_20 : Cond.fieldLink RX0 20 "GateManners$Farm" "parts" "[[I" ∈ tw_T := tw_1 _ (List.mem_of_getElem? (i := 35) rfl) rfl
theorem fl_X3_91 : Cond.fieldLink RX3 91 "GateManners$Farm" "parts" "[[I" ∈ tw_T := tw_1 _ (List.mem_of_getElem? (i := 36) rfl) rfl
theorem fl_X2_90 : Cond.fieldLink RX2 90 "GateManners$Farm" "parts" "[[I" ∈ tw_T := tw_1 _ (List.mem_of_getElem? (i := 37) rfl) rfl
theorem fl_X0_23 : Cond.fieldLink RX0 23 "GateManners$Farm" "heldAt" "[I" ∈ tw_T := tw_1 _ (List.mem_of_getElem? (i := 38) rfl) rfl
theorem fl_X3_190 : Cond.fieldLink RX3 190 "GateManners$Farm" "heldAt" "[I" ∈ tw_T := tw_1 _ (List.mem_of_getElem? (i := 39) rfl) rfl
theorem fl_X0_26 : Cond.fieldLink RX0 26 "GateManners$Farm" "walkers" "I" ∈ tw_T := tw_1 _ (List.mem_of_getElem? (i := 40) rfl) rfl
theorem fl_X3_78 : Cond.fieldLink RX3 78 "GateManners$Farm" "walkers" "I" ∈ tw_T := tw_1 _ (List.mem_of_getElem? (i := 41) rfl) rfl
theorem fl_X0_30 : Cond.fieldLink RX0 30 "GateManners$Farm" "windNow" "I" ∈ tw_T := tw_1 _ (List.mem_of_getElem? (i := 42) rfl) rfl
theorem fl_X3_71 : Cond.fieldLink RX3 71 "GateManners$Farm" "windNow" "I" ∈ tw_T := tw_1 _ (List.mem_of_getElem? (i := 43) rfl) rfl
theorem fl_X2_100 : Cond.fieldLink RX2 100 "GateManners$Farm" "windNow" "I" ∈ tw_T := tw_1 _ (List.mem_of_getElem? (i := 44) rfl) rfl
theorem fl_X0_33 : Cond.fieldLink RX0 33 "GateManners$Farm" "hour" "I" ∈ tw_T := tw_1 _ (List.mem_of_getElem? (i := 45) rfl) rfl
theorem fl_X3_104 : Cond.fieldLink RX3 104 "GateManners$Farm" "hour" "I" ∈ tw_T := tw_1 _ (List.mem_of_getElem? (i := 46) rfl) rfl
theorem fl_X0_36 : Cond.fieldLink RX0 36 "GateManners$Farm" "z" "I" ∈ tw_T := tw_1 _ (List.mem_of_getElem? (i := 47) rfl) rfl
theorem fl_X3_174 : Cond.fieldLink RX3 174 "GateManners$Farm" "z" "I" ∈ tw_T := tw_1 _ (List.mem_of_getElem? (i := 48) rfl) rfl
theorem ac_int : Cond.arrayClass .int ∈ tw_T := tw_1 _ (List.mem_of_getElem? (i := 66) rfl) rfl
theorem cl_X3_26 : Cond.classLink RX3 26 RX2 ∈ tw_T := tw_1 _ (List.mem_of_getElem? (i := 67) rfl) rfl
theorem it_X2 : Cond.instantiable RX2 7 ∈ tw_T := tw_1 _ (List.mem_of_getElem? (i := 68) rfl) rfl
theorem mn_X3_28 : Cond.methodLinkNest RX3 28 yX2_init RX3 ∈ lw_tbl := List.mem_append_right _ (List.mem_append_left _ (List.mem_of_getElem? (i := 69) rfl))
theorem ml_X2_3 : Cond.methodLink RX2 3 objectInit ∈ tw_T := tw_1 _ (List.mem_of_getElem? (i := 72) rfl) rfl
theorem sr_X2_19 : Cond.stringRef RX2 19 "walker  postman dog     child   strangermean    daughtershut    ajar    open    propped beasts  wind    in      back    mood    " ∈ lw_tbl := List.mem_append_right _ (List.mem_append_left _ (List.mem_of_getElem? (i := 73) rfl))
theorem ml_X2_21 : Cond.methodLink RX2 21 yJ0_toCharArray_70df3 ∈ tw_T := tw_1 _ (List.mem_of_getElem? (i := 74) rfl) rfl
theorem ml_J0_492 : Cond.methodLink RJ0 492 yJ0_isLatin1_aae02 ∈ tw_T := tw_1 _ (List.mem_of_getElem? (i := 78) rfl) rfl
theorem fl_J0_38 : Cond.fieldLink RJ0 38 "java/lang/String" "COMPACT_STRINGS" "Z" ∈ tw_T := tw_1 _ (List.mem_of_getElem? (i := 82) rfl) rfl
theorem ml_J0_299 : Cond.methodLink RJ0 299 yJ1_toChars_9d188 ∈ tw_T := tw_1 _ (List.mem_of_getElem? (i := 84) rfl) rfl
theorem ml_J1_13 : Cond.methodLink RJ1 13 yJ1_inflate_03870 ∈ tw_T := tw_1 _ (List.mem_of_getElem? (i := 87) rfl) rfl
theorem ml_J0_303 : Cond.methodLink RJ0 303 yJ2_toChars_9d188 ∈ tw_T := tw_1 _ (List.mem_of_getElem? (i := 90) rfl) rfl
theorem ml_J2_103 : Cond.methodLink RJ2 103 yJ2_getChars_a1a8b ∈ tw_T := tw_1 _ (List.mem_of_getElem? (i := 93) rfl) rfl
theorem ml_J2_173 : Cond.methodLink RJ2 173 yJ2_checkBoundsOffCount_d044e ∈ tw_T := tw_1 _ (List.mem_of_getElem? (i := 96) rfl) rfl
theorem ml_J2_48 : Cond.methodLink RJ2 48 yJ2_length_9d52b ∈ tw_T := tw_1 _ (List.mem_of_getElem? (i := 99) rfl) rfl
theorem ml_J2_419 : Cond.methodLink RJ2 419 yJ0_checkBoundsOffCount_cabcc ∈ tw_T := tw_1 _ (List.mem_of_getElem? (i := 102) rfl) rfl
theorem fl_J0_1053 : Cond.fieldLink RJ0 1053 "jdk/internal/util/Preconditions" "SIOOBE_FORMATTER" "Ljava/util/function/BiFunction;" ∈ tw_T := tw_1 _ (List.mem_of_getElem? (i := 105) rfl) rfl
theorem ml_J0_1065 : Cond.methodLink RJ0 1065 yJ3_checkFromIndexSize_8c36e ∈ tw_T := tw_1 _ (List.mem_of_getElem? (i := 107) rfl) rfl
theorem ml_J2_71 : Cond.methodLink RJ2 71 yJ2_getChar_3b067 ∈ tw_T := tw_1 _ (List.mem_of_getElem? (i := 110) rfl) rfl
theorem fl_J2_44 : Cond.fieldLink RJ2 44 "java/lang/StringUTF16" "$assertionsDisabled" "Z" ∈ tw_T := tw_1 _ (List.mem_of_getElem? (i := 113) rfl) rfl
theorem fl_J2_59 : Cond.fieldLink RJ2 59 "java/lang/StringUTF16" "HI_BYTE_SHIFT" "I" ∈ tw_T := tw_1 _ (List.mem_of_getElem? (i := 115) rfl) rfl
theorem fl_J2_63 : Cond.fieldLink RJ2 63 "java/lang/StringUTF16" "LO_BYTE_SHIFT" "I" ∈ tw_T := tw_1 _ (List.mem_of_getElem? (i := 117) rfl) rfl
theorem fl_X2_9 : Cond.fieldLink RX2 9 "GateManners$Tape" "bytes" "[B" ∈ tw_T := tw_1 _ (List.mem_of_getElem? (i := 119) rfl) rfl
theorem fl_X2_15 : Cond.fieldLink RX2 15 "GateManners$Tape" "size" "I" ∈ tw_T := tw_1 _ (List.mem_of_getElem? (i := 120) rfl) rfl
theorem fl_X3_177 : Cond.fieldLink RX3 177 "GateManners$Tape" "size" "I" ∈ tw_T := tw_1 _ (List.mem_of_getElem? (i := 121) rfl) rfl
theorem fl_X2_27 : Cond.fieldLink RX2 27 "GateManners$Tape" "words" "[C" ∈ tw_T := tw_1 _ (List.mem_of_getElem? (i := 122) rfl) rfl
theorem fl_X2_31 : Cond.fieldLink RX2 31 "GateManners$Tape" "sorts" "[I" ∈ tw_T := tw_1 _ (List.mem_of_getElem? (i := 123) rfl) rfl
theorem fl_X2_35 : Cond.fieldLink RX2 35 "GateManners$Tape" "places" "[I" ∈ tw_T := tw_1 _ (List.mem_of_getElem? (i := 124) rfl) rfl
theorem fl_X2_38 : Cond.fieldLink RX2 38 "GateManners$Tape" "lengths" "[I" ∈ tw_T := tw_1 _ (List.mem_of_getElem? (i := 125) rfl) rfl
theorem fl_X2_41 : Cond.fieldLink RX2 41 "GateManners$Tape" "next" "I" ∈ tw_T := tw_1 _ (List.mem_of_getElem? (i := 126) rfl) rfl
theorem ac_byte : Cond.arrayClass .byte ∈ tw_T := tw_1 _ (List.mem_of_getElem? (i := 142) rfl) rfl
theorem ac_char : Cond.arrayClass .char ∈ tw_T := tw_1 _ (List.mem_of_getElem? (i := 143) rfl) rfl
theorem cl_X3_33 : Cond.classLink RX3 33 RX1 ∈ tw_T := tw_1 _ (List.mem_of_getElem? (i := 144) rfl) rfl
theorem ao_X1 : Cond.arrayOver (.object RX1) ∈ lw_tbl := List.mem_append_right _ (List.mem_append_left _ (List.mem_of_getElem? (i := 145) rfl))
theorem it_X1 : Cond.instantiable RX1 3 ∈ tw_T := tw_1 _ (List.mem_of_getElem? (i := 146) rfl) rfl
theorem mn_X3_39 : Cond.methodLinkNest RX3 39 yX1_init RX3 ∈ lw_tbl := List.mem_append_right _ (List.mem_append_left _ (List.mem_of_getElem? (i := 147) rfl))
theorem ml_X1_3 : Cond.methodLink RX1 3 objectInit ∈ tw_T := tw_1 _ (List.mem_of_getElem? (i := 150) rfl) rfl
theorem fl_X1_9 : Cond.fieldLink RX1 9 "GateManners$Sheet" "numbers" "[I" ∈ tw_T := tw_1 _ (List.mem_of_getElem? (i := 151) rfl) rfl
theorem fl_X0_87 : Cond.fieldLink RX0 87 "GateManners$Sheet" "numbers" "[I" ∈ tw_T := tw_1 _ (List.mem_of_getElem? (i := 152) rfl) rfl
theorem fl_X3_216 : Cond.fieldLink RX3 216 "GateManners$Sheet" "numbers" "[I" ∈ tw_T := tw_1 _ (List.mem_of_getElem? (i := 153) rfl) rfl
theorem fl_X1_15 : Cond.fieldLink RX1 15 "GateManners$Sheet" "bits" "I" ∈ tw_T := tw_1 _ (List.mem_of_getElem? (i := 154) rfl) rfl
theorem fl_X3_210 : Cond.fieldLink RX3 210 "GateManners$Sheet" "bits" "I" ∈ tw_T := tw_1 _ (List.mem_of_getElem? (i := 155) rfl) rfl
theorem fl_X1_19 : Cond.fieldLink RX1 19 "GateManners$Sheet" "size" "I" ∈ tw_T := tw_1 _ (List.mem_of_getElem? (i := 156) rfl) rfl
theorem fl_X0_82 : Cond.fieldLink RX0 82 "GateManners$Sheet" "size" "I" ∈ tw_T := tw_1 _ (List.mem_of_getElem? (i := 157) rfl) rfl
theorem fl_X3_203 : Cond.fieldLink RX3 203 "GateManners$Sheet" "size" "I" ∈ tw_T := tw_1 _ (List.mem_of_getElem? (i := 158) rfl) rfl
theorem fl_X3_12 : Cond.fieldLink RX3 12 "GateManners" "farm" "LGateManners$Farm;" ∈ tw_T := tw_1 _ (List.mem_of_getElem? (i := 166) rfl) rfl
theorem fl_X3_16 : Cond.fieldLink RX3 16 "GateManners" "trial" "LGateManners$Farm;" ∈ tw_T := tw_1 _ (List.mem_of_getElem? (i := 167) rfl) rfl
theorem fl_X3_19 : Cond.fieldLink RX3 19 "GateManners" "kept" "LGateManners$Farm;" ∈ tw_T := tw_1 _ (List.mem_of_getElem? (i := 168) rfl) rfl
theorem fl_X3_22 : Cond.fieldLink RX3 22 "GateManners" "isKept" "Z" ∈ tw_T := tw_1 _ (List.mem_of_getElem? (i := 169) rfl) rfl
theorem fl_X3_29 : Cond.fieldLink RX3 29 "GateManners" "tape" "LGateManners$Tape;" ∈ tw_T := tw_1 _ (List.mem_of_getElem? (i := 170) rfl) rfl
theorem fl_X3_35 : Cond.fieldLink RX3 35 "GateManners" "sheets" "[LGateManners$Sheet;" ∈ tw_T := tw_1 _ (List.mem_of_getElem? (i := 171) rfl) rfl
theorem fl_X3_40 : Cond.fieldLink RX3 40 "GateManners" "found" "[I" ∈ tw_T := tw_1 _ (List.mem_of_getElem? (i := 172) rfl) rfl
theorem ml_L_13 : Cond.methodLink RL 13 yX3_beasts ∈ tw_T := tw_1 _ (List.mem_of_getElem? (i := 188) rfl) rfl
theorem ml_X3_44 : Cond.methodLink RX3 44 yX3_isField ∈ tw_T := tw_1 _ (List.mem_of_getElem? (i := 192) rfl) rfl
theorem ml_X3_48 : Cond.methodLink RX3 48 yX3_isIn ∈ tw_T := tw_1 _ (List.mem_of_getElem? (i := 195) rfl) rfl
theorem ml_X3_52 : Cond.methodLink RX3 52 yX3_finding ∈ tw_T := tw_1 _ (List.mem_of_getElem? (i := 198) rfl) rfl
theorem ct_X3_236 : Cond.constant RX3 236 (-1000001) ∈ tw_T := tw_1 _ (List.mem_of_getElem? (i := 202) rfl) rfl
theorem ml_L_18 : Cond.methodLink RL 18 yX3_field ∈ tw_T := tw_1 _ (List.mem_of_getElem? (i := 203) rfl) rfl
theorem ml_X3_59 : Cond.methodLink RX3 59 yX0_walkersIn ∈ tw_T := tw_1 _ (List.mem_of_getElem? (i := 207) rfl) rfl
theorem ml_L_22 : Cond.methodLink RL 22 yX3_gate ∈ tw_T := tw_1 _ (List.mem_of_getElem? (i := 211) rfl) rfl
theorem ml_X3_62 : Cond.methodLink RX3 62 yX3_isGate ∈ tw_T := tw_1 _ (List.mem_of_getElem? (i := 215) rfl) rfl
theorem ml_X3_65 : Cond.methodLink RX3 65 yX3_isManner ∈ tw_T := tw_1 _ (List.mem_of_getElem? (i := 218) rfl) rfl
theorem ml_L_26 : Cond.methodLink RL 26 yX3_stands ∈ tw_T := tw_1 _ (List.mem_of_getElem? (i := 221) rfl) rfl
theorem ml_L_31 : Cond.methodLink RL 31 yX3_wind ∈ tw_T := tw_1 _ (List.mem_of_getElem? (i := 225) rfl) rfl
theorem ml_L_35 : Cond.methodLink RL 35 yX3_walker ∈ tw_T := tw_1 _ (List.mem_of_getElem? (i := 229) rfl) rfl
theorem ml_X3_75 : Cond.methodLink RX3 75 yX3_isKind ∈ tw_T := tw_1 _ (List.mem_of_getElem? (i := 233) rfl) rfl
theorem ml_X3_81 : Cond.methodLink RX3 81 yX0_addWalker ∈ tw_T := tw_1 _ (List.mem_of_getElem? (i := 236) rfl) rfl
theorem ml_L_39 : Cond.methodLink RL 39 yX3_of ∈ tw_T := tw_2 _ (List.mem_of_getElem? (i := 0) rfl) rfl
theorem ml_X3_85 : Cond.methodLink RX3 85 yX3_isWalker ∈ tw_T := tw_2 _ (List.mem_of_getElem? (i := 4) rfl) rfl
theorem ml_X3_88 : Cond.methodLink RX3 88 yX0_goesOf ∈ tw_T := tw_2 _ (List.mem_of_getElem? (i := 8) rfl) rfl
theorem ml_L_43 : Cond.methodLink RL 43 yX3_change ∈ tw_T := tw_2 _ (List.mem_of_getElem? (i := 12) rfl) rfl
theorem fl_X3_95 : Cond.fieldLink RX3 95 "GateManners" "MOST_OF_PART" "[I" ∈ tw_T := tw_2 _ (List.mem_of_getElem? (i := 16) rfl) rfl
theorem ml_L_48 : Cond.methodLink RL 48 yX3_leaves ∈ tw_T := tw_2 _ (List.mem_of_getElem? (i := 18) rfl) rfl
theorem ml_X3_98 : Cond.methodLink RX3 98 yX0_leftBy ∈ tw_T := tw_2 _ (List.mem_of_getElem? (i := 22) rfl) rfl
theorem ml_X3_101 : Cond.methodLink RX3 101 yX0_feltBy ∈ tw_T := tw_2 _ (List.mem_of_getElem? (i := 26) rfl) rfl
theorem ml_X0_45 : Cond.methodLink RX0 45 yJ9_min_7cf53 ∈ tw_T := tw_2 _ (List.mem_of_getElem? (i := 30) rfl) rfl
theorem ml_X0_51 : Cond.methodLink RX0 51 yJ9_max_7cf53 ∈ tw_T := tw_2 _ (List.mem_of_getElem? (i := 33) rfl) rfl
theorem ml_L_52 : Cond.methodLink RL 52 yX3_go ∈ tw_T := tw_2 _ (List.mem_of_getElem? (i := 36) rfl) rfl
theorem ct_X3_107 : Cond.constant RX3 107 (99999) ∈ tw_T := tw_2 _ (List.mem_of_getElem? (i := 40) rfl) rfl
theorem ml_X3_108 : Cond.methodLink RX3 108 yX0_passHours ∈ tw_T := tw_2 _ (List.mem_of_getElem? (i := 41) rfl) rfl
theorem ml_X0_54 : Cond.methodLink RX0 54 yX0_letGo ∈ tw_T := tw_2 _ (List.mem_of_getElem? (i := 45) rfl) rfl
theorem ml_X0_65 : Cond.methodLink RX0 65 yX0_goesOf ∈ tw_T := tw_2 _ (List.mem_of_getElem? (i := 49) rfl) rfl
theorem ml_X0_69 : Cond.methodLink RX0 69 yX0_passOrTurn ∈ tw_T := tw_2 _ (List.mem_of_getElem? (i := 50) rfl) rfl
theorem ml_X0_72 : Cond.methodLink RX0 72 yX0_leftBy ∈ tw_T := tw_2 _ (List.mem_of_getElem? (i := 54) rfl) rfl
theorem ml_X0_75 : Cond.methodLink RX0 75 yX0_feltBy ∈ tw_T := tw_2 _ (List.mem_of_getElem? (i := 55) rfl) rfl
theorem ml_X0_58 : Cond.methodLink RX0 58 yX0_moveBeasts ∈ tw_T := tw_2 _ (List.mem_of_getElem? (i := 56) rfl) rfl
theorem ml_X0_78 : Cond.methodLink RX0 78 yX0_through ∈ tw_T := tw_2 _ (List.mem_of_getElem? (i := 60) rfl) rfl
theorem ml_X0_61 : Cond.methodLink RX0 61 yX0_blowShut ∈ tw_T := tw_2 _ (List.mem_of_getElem? (i := 63) rfl) rfl
theorem ct_X0_64 : Cond.constant RX0 64 (99999) ∈ tw_T := tw_2 _ (List.mem_of_getElem? (i := 67) rfl) rfl
theorem ml_X3_112 : Cond.methodLink RX3 112 yX0_standingByFour ∈ tw_T := tw_2 _ (List.mem_of_getElem? (i := 68) rfl) rfl
theorem ml_L_56 : Cond.methodLink RL 56 yX3_now ∈ tw_T := tw_2 _ (List.mem_of_getElem? (i := 72) rfl) rfl
theorem ml_X3_116 : Cond.methodLink RX3 116 yX0_allBeasts ∈ tw_T := tw_2 _ (List.mem_of_getElem? (i := 76) rfl) rfl
theorem ml_X3_119 : Cond.methodLink RX3 119 yX0_notShut ∈ tw_T := tw_2 _ (List.mem_of_getElem? (i := 80) rfl) rfl
theorem ml_X3_122 : Cond.methodLink RX3 122 yX0_allPassed ∈ tw_T := tw_2 _ (List.mem_of_getElem? (i := 84) rfl) rfl
theorem ml_X3_125 : Cond.methodLink RX3 125 yX0_fullestField ∈ tw_T := tw_2 _ (List.mem_of_getElem? (i := 88) rfl) rfl
theorem ml_L_60 : Cond.methodLink RL 60 yX3_ahead ∈ tw_T := tw_2 _ (List.mem_of_getElem? (i := 92) rfl) rfl
theorem ml_X3_128 : Cond.methodLink RX3 128 yX3_tryHours ∈ tw_T := tw_2 _ (List.mem_of_getElem? (i := 96) rfl) rfl
theorem ml_X3_132 : Cond.methodLink RX3 132 yX0_become ∈ tw_T := tw_2 _ (List.mem_of_getElem? (i := 100) rfl) rfl
theorem ml_X0_39 : Cond.methodLink RX0 39 arraycopyName ∈ tw_T := tw_2 _ (List.mem_of_getElem? (i := 104) rfl) rfl
theorem ml_L_64 : Cond.methodLink RL 64 yX3_stand ∈ tw_T := tw_2 _ (List.mem_of_getElem? (i := 107) rfl) rfl
theorem ml_L_68 : Cond.methodLink RL 68 yX3_where ∈ tw_T := tw_2 _ (List.mem_of_getElem? (i := 111) rfl) rfl
theorem ml_L_72 : Cond.methodLink RL 72 yX3_corn ∈ tw_T := tw_2 _ (List.mem_of_getElem? (i := 115) rfl) rfl
theorem ml_L_76 : Cond.methodLink RL 76 yX3_when ∈ tw_T := tw_2 _ (List.mem_of_getElem? (i := 119) rfl) rfl
theorem ml_L_80 : Cond.methodLink RL 80 yX3_meet ∈ tw_T := tw_2 _ (List.mem_of_getElem? (i := 123) rfl) rfl
theorem ml_L_84 : Cond.methodLink RL 84 yX3_start ∈ tw_T := tw_2 _ (List.mem_of_getElem? (i := 127) rfl) rfl
theorem ml_X3_136 : Cond.methodLink RX3 136 yX3_isWish ∈ tw_T := tw_2 _ (List.mem_of_getElem? (i := 131) rfl) rfl
theorem ml_X3_140 : Cond.methodLink RX3 140 yX3_valuesFor ∈ tw_T := tw_2 _ (List.mem_of_getElem? (i := 135) rfl) rfl
theorem ml_X3_144 : Cond.methodLink RX3 144 yJ6_numberOfTrailingZeros_0f7a4 ∈ tw_T := tw_2 _ (List.mem_of_getElem? (i := 139) rfl) rfl
theorem ct_J6_264 : Cond.constant RJ6 264 (65536) ∈ tw_T := tw_2 _ (List.mem_of_getElem? (i := 142) rfl) rfl
theorem ml_L_89 : Cond.methodLink RL 89 yX3_kindsFor ∈ tw_T := tw_2 _ (List.mem_of_getElem? (i := 143) rfl) rfl
theorem ml_L_93 : Cond.methodLink RL 93 yX3_moods ∈ tw_T := tw_2 _ (List.mem_of_getElem? (i := 147) rfl) rfl
theorem ml_L_97 : Cond.methodLink RL 97 yX3_windFor ∈ tw_T := tw_2 _ (List.mem_of_getElem? (i := 151) rfl) rfl
theorem ml_L_101 : Cond.methodLink RL 101 yX3_home ∈ tw_T := tw_2 _ (List.mem_of_getElem? (i := 155) rfl) rfl
theorem ml_X3_149 : Cond.methodLink RX3 149 yX3_leastHome ∈ tw_T := tw_2 _ (List.mem_of_getElem? (i := 159) rfl) rfl
theorem ml_X3_167 : Cond.methodLink RX3 167 yJ6_bitCount_0f7a4 ∈ tw_T := tw_2 _ (List.mem_of_getElem? (i := 163) rfl) rfl
theorem ct_J6_265 : Cond.constant RJ6 265 (1431655765) ∈ tw_T := tw_2 _ (List.mem_of_getElem? (i := 166) rfl) rfl
theorem ct_J6_266 : Cond.constant RJ6 266 (858993459) ∈ tw_T := tw_2 _ (List.mem_of_getElem? (i := 167) rfl) rfl
theorem ct_J6_267 : Cond.constant RJ6 267 (252645135) ∈ tw_T := tw_2 _ (List.mem_of_getElem? (i := 168) rfl) rfl
theorem ml_L_105 : Cond.methodLink RL 105 yX3_shut ∈ tw_T := tw_2 _ (List.mem_of_getElem? (i := 169) rfl) rfl
theorem ml_L_109 : Cond.methodLink RL 109 yX3_who ∈ tw_T := tw_2 _ (List.mem_of_getElem? (i := 173) rfl) rfl
theorem ml_X3_153 : Cond.methodLink RX3 153 yX3_wrongSheet ∈ tw_T := tw_2 _ (List.mem_of_getElem? (i := 177) rfl) rfl
theorem ml_X3_197 : Cond.methodLink RX3 197 yX3_isSheet ∈ tw_T := tw_2 _ (List.mem_of_getElem? (i := 181) rfl) rfl
theorem ml_X3_206 : Cond.methodLink RX3 206 yX1_isMissing ∈ tw_T := tw_2 _ (List.mem_of_getElem? (i := 184) rfl) rfl
theorem ml_X3_156 : Cond.methodLink RX3 156 yX0_standsAsTold ∈ tw_T := tw_2 _ (List.mem_of_getElem? (i := 188) rfl) rfl
theorem ml_L_113 : Cond.methodLink RL 113 yX3_fits ∈ tw_T := tw_2 _ (List.mem_of_getElem? (i := 192) rfl) rfl
theorem ml_L_117 : Cond.methodLink RL 117 yX3_kinds ∈ tw_T := tw_2 _ (List.mem_of_getElem? (i := 196) rfl) rfl
theorem ml_X3_160 : Cond.methodLink RX3 160 yX3_feelsAsTold ∈ tw_T := tw_2 _ (List.mem_of_getElem? (i := 200) rfl) rfl
theorem ml_L_121 : Cond.methodLink RL 121 yX3_gales ∈ tw_T := tw_2 _ (List.mem_of_getElem? (i := 204) rfl) rfl
theorem ml_X3_164 : Cond.methodLink RX3 164 yX0_draw ∈ tw_T := tw_2 _ (List.mem_of_getElem? (i := 208) rfl) rfl
theorem ct_X0_81 : Cond.constant RX0 81 (1103515245) ∈ tw_T := tw_2 _ (List.mem_of_getElem? (i := 212) rfl) rfl
theorem ml_L_125 : Cond.methodLink RL 125 yX3_odds ∈ tw_T := tw_2 _ (List.mem_of_getElem? (i := 213) rfl) rfl
theorem ml_X3_170 : Cond.methodLink RX3 170 yX3_power ∈ tw_T := tw_2 _ (List.mem_of_getElem? (i := 217) rfl) rfl
theorem ml_L_130 : Cond.methodLink RL 130 yX3_seed ∈ tw_T := tw_2 _ (List.mem_of_getElem? (i := 220) rfl) rfl
theorem ml_L_134 : Cond.methodLink RL 134 yX3_feed ∈ tw_T := tw_2 _ (List.mem_of_getElem? (i := 224) rfl) rfl
theorem ml_X3_180 : Cond.methodLink RX3 180 yX2_put ∈ tw_T := tw_2 _ (List.mem_of_getElem? (i := 228) rfl) rfl
theorem ml_L_138 : Cond.methodLink RL 138 yX3_wipe ∈ tw_T := tw_2 _ (List.mem_of_getElem? (i := 232) rfl) rfl
theorem ml_L_143 : Cond.methodLink RL 143 yX3_text ∈ tw_T := tw_2 _ (List.mem_of_getElem? (i := 236) rfl) rfl
theorem ml_X3_183 : Cond.methodLink RX3 183 yX2_tellTo ∈ tw_T := tw_3 _ (List.mem_of_getElem? (i := 0) rfl) rfl
theorem ml_X2_44 : Cond.methodLink RX2 44 yX2_split ∈ tw_T := tw_3 _ (List.mem_of_getElem? (i := 4) rfl) rfl
theorem ml_X2_51 : Cond.methodLink RX2 51 yX2_sortOf ∈ tw_T := tw_3 _ (List.mem_of_getElem? (i := 8) rfl) rfl
theorem ml_X2_55 : Cond.methodLink RX2 55 yX2_setToken ∈ tw_T := tw_3 _ (List.mem_of_getElem? (i := 11) rfl) rfl
theorem ml_X2_47 : Cond.methodLink RX2 47 yX2_takeItem ∈ tw_T := tw_3 _ (List.mem_of_getElem? (i := 15) rfl) rfl
theorem ml_X2_59 : Cond.methodLink RX2 59 yX2_wordAhead ∈ tw_T := tw_3 _ (List.mem_of_getElem? (i := 19) rfl) rfl
theorem ml_X2_108 : Cond.methodLink RX2 108 yX2_isSpelt ∈ tw_T := tw_3 _ (List.mem_of_getElem? (i := 23) rfl) rfl
theorem ml_X2_63 : Cond.methodLink RX2 63 yX2_takeWalker ∈ tw_T := tw_3 _ (List.mem_of_getElem? (i := 27) rfl) rfl
theorem ml_X2_76 : Cond.methodLink RX2 76 yX0_addWalker ∈ tw_T := tw_3 _ (List.mem_of_getElem? (i := 31) rfl) rfl
theorem ml_X2_82 : Cond.methodLink RX2 82 yX2_takeWord ∈ tw_T := tw_3 _ (List.mem_of_getElem? (i := 32) rfl) rfl
theorem ml_X2_86 : Cond.methodLink RX2 86 yX2_takeNumber ∈ tw_T := tw_3 _ (List.mem_of_getElem? (i := 36) rfl) rfl
theorem ml_X2_103 : Cond.methodLink RX2 103 yJ9_min_7cf53 ∈ tw_T := tw_3 _ (List.mem_of_getElem? (i := 40) rfl) rfl
theorem ml_X2_67 : Cond.methodLink RX2 67 yX2_takeGate ∈ tw_T := tw_3 _ (List.mem_of_getElem? (i := 41) rfl) rfl
theorem ml_X2_70 : Cond.methodLink RX2 70 yX2_takeBeasts ∈ tw_T := tw_3 _ (List.mem_of_getElem? (i := 45) rfl) rfl
theorem ml_X2_73 : Cond.methodLink RX2 73 yX2_takeWind ∈ tw_T := tw_3 _ (List.mem_of_getElem? (i := 49) rfl) rfl
theorem ml_L_147 : Cond.methodLink RL 147 yX3_hold ∈ tw_T := tw_3 _ (List.mem_of_getElem? (i := 53) rfl) rfl
theorem ml_X3_187 : Cond.methodLink RX3 187 yX3_isSpot ∈ tw_T := tw_3 _ (List.mem_of_getElem? (i := 57) rfl) rfl
theorem ml_L_151 : Cond.methodLink RL 151 yX3_as ∈ tw_T := tw_3 _ (List.mem_of_getElem? (i := 60) rfl) rfl
theorem ml_X3_193 : Cond.methodLink RX3 193 yX3_isUnder ∈ tw_T := tw_3 _ (List.mem_of_getElem? (i := 64) rfl) rfl
theorem fl_X3_237 : Cond.fieldLink RX3 237 "GateManners" "KIND_ABOVE" "[I" ∈ tw_T := tw_3 _ (List.mem_of_getElem? (i := 67) rfl) rfl
theorem ml_L_155 : Cond.methodLink RL 155 yX3_sheet ∈ tw_T := tw_3 _ (List.mem_of_getElem? (i := 69) rfl) rfl
theorem ml_X3_200 : Cond.methodLink RX3 200 yX1_clear ∈ tw_T := tw_3 _ (List.mem_of_getElem? (i := 73) rfl) rfl
theorem ml_L_159 : Cond.methodLink RL 159 yX3_write ∈ tw_T := tw_3 _ (List.mem_of_getElem? (i := 77) rfl) rfl
theorem ml_X3_204 : Cond.methodLink RX3 204 yX1_put ∈ tw_T := tw_3 _ (List.mem_of_getElem? (i := 81) rfl) rfl
theorem ml_L_163 : Cond.methodLink RL 163 yX3_copy ∈ tw_T := tw_3 _ (List.mem_of_getElem? (i := 85) rfl) rfl
theorem ml_X3_213 : Cond.methodLink RX3 213 yX1_hasRow ∈ tw_T := tw_3 _ (List.mem_of_getElem? (i := 89) rfl) rfl
theorem ml_X3_219 : Cond.methodLink RX3 219 arraycopyName ∈ tw_T := tw_3 _ (List.mem_of_getElem? (i := 93) rfl) rfl
theorem ml_L_168 : Cond.methodLink RL 168 yX3_load ∈ tw_T := tw_3 _ (List.mem_of_getElem? (i := 94) rfl) rfl
theorem ml_X3_225 : Cond.methodLink RX3 225 yJ9_min_7cf53 ∈ tw_T := tw_3 _ (List.mem_of_getElem? (i := 98) rfl) rfl
theorem ml_L_172 : Cond.methodLink RL 172 yX3_judge ∈ tw_T := tw_3 _ (List.mem_of_getElem? (i := 99) rfl) rfl
theorem ml_L_176 : Cond.methodLink RL 176 yX3_image ∈ tw_T := tw_3 _ (List.mem_of_getElem? (i := 103) rfl) rfl
theorem ml_L_180 : Cond.methodLink RL 180 yX3_undo ∈ tw_T := tw_3 _ (List.mem_of_getElem? (i := 107) rfl) rfl
theorem ml_L_184 : Cond.methodLink RL 184 yX3_tear ∈ tw_T := tw_3 _ (List.mem_of_getElem? (i := 111) rfl) rfl
theorem ml_L_188 : Cond.methodLink RL 188 yX3_count ∈ tw_T := tw_3 _ (List.mem_of_getElem? (i := 115) rfl) rfl
theorem ml_X3_230 : Cond.methodLink RX3 230 yX0_spotsInUse ∈ tw_T := tw_3 _ (List.mem_of_getElem? (i := 119) rfl) rfl
theorem ml_L_192 : Cond.methodLink RL 192 yX3_status ∈ tw_T := tw_3 _ (List.mem_of_getElem? (i := 123) rfl) rfl
theorem ml_X3_233 : Cond.methodLink RX3 233 yX3_allFound ∈ tw_T := tw_3 _ (List.mem_of_getElem? (i := 127) rfl) rfl
theorem cl_L_10 : Cond.classLink RL 10 RX4 ∈ tw_T := tw_3 _ (List.mem_of_getElem? (i := 131) rfl) rfl
theorem it_X4 : Cond.instantiable RX4 17 ∈ tw_T := tw_3 _ (List.mem_of_getElem? (i := 132) rfl) rfl
theorem ml_L_12 : Cond.methodLink RL 12 yX4_init ∈ tw_T := tw_3 _ (List.mem_of_getElem? (i := 133) rfl) rfl
theorem ml_X4_1 : Cond.methodLink RX4 1 objectInit ∈ tw_T := tw_3 _ (List.mem_of_getElem? (i := 136) rfl) rfl
theorem fl_X4_7 : Cond.fieldLink RX4 7 "GateMannersModel" "s" "[I" ∈ tw_T := tw_3 _ (List.mem_of_getElem? (i := 137) rfl) rfl
theorem fl_X4_13 : Cond.fieldLink RX4 13 "GateMannersModel" "kept" "[I" ∈ tw_T := tw_3 _ (List.mem_of_getElem? (i := 138) rfl) rfl
theorem fl_X4_16 : Cond.fieldLink RX4 16 "GateMannersModel" "before" "[I" ∈ tw_T := tw_3 _ (List.mem_of_getElem? (i := 139) rfl) rfl
theorem fl_X4_19 : Cond.fieldLink RX4 19 "GateMannersModel" "aside" "[I" ∈ tw_T := tw_3 _ (List.mem_of_getElem? (i := 140) rfl) rfl
theorem fl_X4_278 : Cond.fieldLink RX4 278 "GateMannersModel" "isKept" "Z" ∈ tw_T := tw_3 _ (List.mem_of_getElem? (i := 141) rfl) rfl
theorem fl_X4_22 : Cond.fieldLink RX4 22 "GateMannersModel" "findings" "[I" ∈ tw_T := tw_3 _ (List.mem_of_getElem? (i := 142) rfl) rfl
theorem fl_X4_25 : Cond.fieldLink RX4 25 "GateMannersModel" "tape" "[I" ∈ tw_T := tw_3 _ (List.mem_of_getElem? (i := 143) rfl) rfl
theorem fl_X4_193 : Cond.fieldLink RX4 193 "GateMannersModel" "taped" "I" ∈ tw_T := tw_3 _ (List.mem_of_getElem? (i := 144) rfl) rfl
theorem fl_X4_28 : Cond.fieldLink RX4 28 "GateMannersModel" "bitsOf" "[I" ∈ tw_T := tw_3 _ (List.mem_of_getElem? (i := 145) rfl) rfl
theorem fl_X4_31 : Cond.fieldLink RX4 31 "GateMannersModel" "sizes" "[I" ∈ tw_T := tw_3 _ (List.mem_of_getElem? (i := 146) rfl) rfl
theorem fl_X4_34 : Cond.fieldLink RX4 34 "GateMannersModel" "numbers" "[I" ∈ tw_T := tw_3 _ (List.mem_of_getElem? (i := 147) rfl) rfl
theorem fl_X4_37 : Cond.fieldLink RX4 37 "GateMannersModel" "gone" "[I" ∈ tw_T := tw_3 _ (List.mem_of_getElem? (i := 148) rfl) rfl
theorem fl_X4_212 : Cond.fieldLink RX4 212 "GateMannersModel" "token" "I" ∈ tw_T := tw_3 _ (List.mem_of_getElem? (i := 149) rfl) rfl
theorem fl_X4_200 : Cond.fieldLink RX4 200 "GateMannersModel" "from" "I" ∈ tw_T := tw_3 _ (List.mem_of_getElem? (i := 150) rfl) rfl
theorem fl_X4_197 : Cond.fieldLink RX4 197 "GateMannersModel" "to" "I" ∈ tw_T := tw_3 _ (List.mem_of_getElem? (i := 151) rfl) rfl
theorem fl_X4_215 : Cond.fieldLink RX4 215 "GateMannersModel" "value" "I" ∈ tw_T := tw_3 _ (List.mem_of_getElem? (i := 152) rfl) rfl
theorem fl_X4_218 : Cond.fieldLink RX4 218 "GateMannersModel" "faultAt" "I" ∈ tw_T := tw_3 _ (List.mem_of_getElem? (i := 153) rfl) rfl
theorem ml_L_17 : Cond.methodLink RL 17 yX4_beasts ∈ tw_T := tw_3 _ (List.mem_of_getElem? (i := 189) rfl) rfl
theorem ml_X4_52 : Cond.methodLink RX4 52 yX4_isField ∈ tw_T := tw_3 _ (List.mem_of_getElem? (i := 193) rfl) rfl
theorem ct_X4_56 : Cond.constantLong RX4 56 (9999) ∈ tw_T := tw_3 _ (List.mem_of_getElem? (i := 196) rfl) rfl
theorem ml_X4_43 : Cond.methodLink RX4 43 yX4_isIn ∈ tw_T := tw_3 _ (List.mem_of_getElem? (i := 197) rfl) rfl
theorem ml_X4_58 : Cond.methodLink RX4 58 yX4_becomes ∈ tw_T := tw_3 _ (List.mem_of_getElem? (i := 200) rfl) rfl
theorem ct_X4_40 : Cond.constant RX4 40 (-1000001) ∈ tw_T := tw_3 _ (List.mem_of_getElem? (i := 204) rfl) rfl
theorem ml_X4_48 : Cond.methodLink RX4 48 yX4_finds ∈ tw_T := tw_3 _ (List.mem_of_getElem? (i := 205) rfl) rfl
theorem ml_L_21 : Cond.methodLink RL 21 yX4_field ∈ tw_T := tw_3 _ (List.mem_of_getElem? (i := 209) rfl) rfl
theorem ml_X4_65 : Cond.methodLink RX4 65 yX4_there ∈ tw_T := tw_3 _ (List.mem_of_getElem? (i := 213) rfl) rfl
theorem ml_X4_62 : Cond.methodLink RX4 62 yX4_its ∈ tw_T := tw_3 _ (List.mem_of_getElem? (i := 217) rfl) rfl
theorem ml_L_25 : Cond.methodLink RL 25 yX4_gate ∈ tw_T := tw_3 _ (List.mem_of_getElem? (i := 221) rfl) rfl
theorem ml_X4_68 : Cond.methodLink RX4 68 yX4_isGate ∈ tw_T := tw_3 _ (List.mem_of_getElem? (i := 225) rfl) rfl
theorem ml_X4_71 : Cond.methodLink RX4 71 yX4_isStand ∈ tw_T := tw_3 _ (List.mem_of_getElem? (i := 228) rfl) rfl
theorem ct_X4_41 : Cond.constantLong RX4 41 (3) ∈ tw_T := tw_3 _ (List.mem_of_getElem? (i := 231) rfl) rfl
theorem ml_L_30 : Cond.methodLink RL 30 yX4_stands ∈ tw_T := tw_3 _ (List.mem_of_getElem? (i := 232) rfl) rfl
theorem ml_L_34 : Cond.methodLink RL 34 yX4_wind ∈ tw_T := tw_3 _ (List.mem_of_getElem? (i := 236) rfl) rfl
theorem ct_X4_74 : Cond.constantLong RX4 74 (9) ∈ tw_T := tw_4 _ (List.mem_of_getElem? (i := 0) rfl) rfl
theorem ml_L_38 : Cond.methodLink RL 38 yX4_walker ∈ tw_T := tw_4 _ (List.mem_of_getElem? (i := 1) rfl) rfl
theorem ct_X4_79 : Cond.constantLong RX4 79 (6) ∈ tw_T := tw_4 _ (List.mem_of_getElem? (i := 5) rfl) rfl
theorem ct_X4_81 : Cond.constant RX4 81 (-1000002) ∈ tw_T := tw_4 _ (List.mem_of_getElem? (i := 6) rfl) rfl
theorem ml_X4_82 : Cond.methodLink RX4 82 yX4_comes ∈ tw_T := tw_4 _ (List.mem_of_getElem? (i := 7) rfl) rfl
theorem ml_X4_76 : Cond.methodLink RX4 76 yX4_at ∈ tw_T := tw_4 _ (List.mem_of_getElem? (i := 11) rfl) rfl
theorem ml_L_42 : Cond.methodLink RL 42 yX4_of ∈ tw_T := tw_4 _ (List.mem_of_getElem? (i := 14) rfl) rfl
theorem ml_X4_89 : Cond.methodLink RX4 89 yX4_isWalker ∈ tw_T := tw_4 _ (List.mem_of_getElem? (i := 18) rfl) rfl
theorem ct_X4_92 : Cond.constantLong RX4 92 (5) ∈ tw_T := tw_4 _ (List.mem_of_getElem? (i := 22) rfl) rfl
theorem ml_X4_94 : Cond.methodLink RX4 94 yX4_goesFar ∈ tw_T := tw_4 _ (List.mem_of_getElem? (i := 23) rfl) rfl
theorem ml_L_47 : Cond.methodLink RL 47 yX4_change ∈ tw_T := tw_4 _ (List.mem_of_getElem? (i := 27) rfl) rfl
theorem ct_X4_97 : Cond.constantLong RX4 97 (4) ∈ tw_T := tw_4 _ (List.mem_of_getElem? (i := 31) rfl) rfl
theorem ml_X4_99 : Cond.methodLink RX4 99 yX4_greatestOf ∈ tw_T := tw_4 _ (List.mem_of_getElem? (i := 32) rfl) rfl
theorem ml_L_51 : Cond.methodLink RL 51 yX4_leaves ∈ tw_T := tw_4 _ (List.mem_of_getElem? (i := 35) rfl) rfl
theorem ml_X4_102 : Cond.methodLink RX4 102 yX4_leavesIt ∈ tw_T := tw_4 _ (List.mem_of_getElem? (i := 39) rfl) rfl
theorem ml_X4_105 : Cond.methodLink RX4 105 yX4_feels ∈ tw_T := tw_4 _ (List.mem_of_getElem? (i := 43) rfl) rfl
theorem ml_X4_86 : Cond.methodLink RX4 86 yX4_least ∈ tw_T := tw_4 _ (List.mem_of_getElem? (i := 47) rfl) rfl
theorem ml_L_55 : Cond.methodLink RL 55 yX4_go ∈ tw_T := tw_4 _ (List.mem_of_getElem? (i := 50) rfl) rfl
theorem ct_X4_118 : Cond.constantLong RX4 118 (60) ∈ tw_T := tw_4 _ (List.mem_of_getElem? (i := 54) rfl) rfl
theorem ct_X4_120 : Cond.constant RX4 120 (99999) ∈ tw_T := tw_4 _ (List.mem_of_getElem? (i := 55) rfl) rfl
theorem ct_X4_121 : Cond.constant RX4 121 (-1000005) ∈ tw_T := tw_4 _ (List.mem_of_getElem? (i := 56) rfl) rfl
theorem ml_X4_122 : Cond.methodLink RX4 122 yX4_goes ∈ tw_T := tw_4 _ (List.mem_of_getElem? (i := 57) rfl) rfl
theorem ml_X4_115 : Cond.methodLink RX4 115 yX4_hourBut ∈ tw_T := tw_4 _ (List.mem_of_getElem? (i := 61) rfl) rfl
theorem ml_X4_108 : Cond.methodLink RX4 108 yX4_walks ∈ tw_T := tw_4 _ (List.mem_of_getElem? (i := 65) rfl) rfl
theorem ml_X4_112 : Cond.methodLink RX4 112 yX4_wander ∈ tw_T := tw_4 _ (List.mem_of_getElem? (i := 69) rfl) rfl
theorem ml_X4_125 : Cond.methodLink RX4 125 yX4_allStand ∈ tw_T := tw_4 _ (List.mem_of_getElem? (i := 73) rfl) rfl
theorem ml_L_59 : Cond.methodLink RL 59 yX4_now ∈ tw_T := tw_4 _ (List.mem_of_getElem? (i := 77) rfl) rfl
theorem ml_X4_129 : Cond.methodLink RX4 129 yX4_beastsAll ∈ tw_T := tw_4 _ (List.mem_of_getElem? (i := 81) rfl) rfl
theorem ml_X4_132 : Cond.methodLink RX4 132 yX4_notShut ∈ tw_T := tw_4 _ (List.mem_of_getElem? (i := 85) rfl) rfl
theorem ml_X4_135 : Cond.methodLink RX4 135 yX4_passedAll ∈ tw_T := tw_4 _ (List.mem_of_getElem? (i := 89) rfl) rfl
theorem ml_X4_138 : Cond.methodLink RX4 138 yX4_fullest ∈ tw_T := tw_4 _ (List.mem_of_getElem? (i := 93) rfl) rfl
theorem ml_L_63 : Cond.methodLink RL 63 yX4_ahead ∈ tw_T := tw_4 _ (List.mem_of_getElem? (i := 97) rfl) rfl
theorem ct_X4_145 : Cond.constantLong RX4 145 (100) ∈ tw_T := tw_4 _ (List.mem_of_getElem? (i := 101) rfl) rfl
theorem ml_X4_147 : Cond.methodLink RX4 147 yX4_thenAt ∈ tw_T := tw_4 _ (List.mem_of_getElem? (i := 102) rfl) rfl
theorem ml_X4_141 : Cond.methodLink RX4 141 yX4_copyRow ∈ tw_T := tw_4 _ (List.mem_of_getElem? (i := 106) rfl) rfl
theorem ml_L_67 : Cond.methodLink RL 67 yX4_stand ∈ tw_T := tw_4 _ (List.mem_of_getElem? (i := 109) rfl) rfl
theorem ml_L_71 : Cond.methodLink RL 71 yX4_where ∈ tw_T := tw_4 _ (List.mem_of_getElem? (i := 113) rfl) rfl
theorem ml_L_75 : Cond.methodLink RL 75 yX4_corn ∈ tw_T := tw_4 _ (List.mem_of_getElem? (i := 117) rfl) rfl
theorem ct_X4_47 : Cond.constant RX4 47 (-1000004) ∈ tw_T := tw_4 _ (List.mem_of_getElem? (i := 121) rfl) rfl
theorem ml_L_79 : Cond.methodLink RL 79 yX4_when ∈ tw_T := tw_4 _ (List.mem_of_getElem? (i := 122) rfl) rfl
theorem ml_L_83 : Cond.methodLink RL 83 yX4_meet ∈ tw_T := tw_4 _ (List.mem_of_getElem? (i := 126) rfl) rfl
theorem ml_L_88 : Cond.methodLink RL 88 yX4_start ∈ tw_T := tw_4 _ (List.mem_of_getElem? (i := 130) rfl) rfl
theorem ml_X4_152 : Cond.methodLink RX4 152 yX4_isAsked ∈ tw_T := tw_4 _ (List.mem_of_getElem? (i := 134) rfl) rfl
theorem ct_X4_150 : Cond.constantLong RX4 150 (40) ∈ tw_T := tw_4 _ (List.mem_of_getElem? (i := 138) rfl) rfl
theorem ml_X4_156 : Cond.methodLink RX4 156 yX4_withWhich ∈ tw_T := tw_4 _ (List.mem_of_getElem? (i := 139) rfl) rfl
theorem ml_X4_160 : Cond.methodLink RX4 160 yX4_lowest ∈ tw_T := tw_4 _ (List.mem_of_getElem? (i := 143) rfl) rfl
theorem ml_X4_163 : Cond.methodLink RX4 163 yX4_orNone ∈ tw_T := tw_4 _ (List.mem_of_getElem? (i := 146) rfl) rfl
theorem ml_L_92 : Cond.methodLink RL 92 yX4_kindsFor ∈ tw_T := tw_4 _ (List.mem_of_getElem? (i := 150) rfl) rfl
theorem ml_L_96 : Cond.methodLink RL 96 yX4_moods ∈ tw_T := tw_4 _ (List.mem_of_getElem? (i := 154) rfl) rfl
theorem ml_L_100 : Cond.methodLink RL 100 yX4_windFor ∈ tw_T := tw_4 _ (List.mem_of_getElem? (i := 158) rfl) rfl
theorem ml_L_104 : Cond.methodLink RL 104 yX4_home ∈ tw_T := tw_4 _ (List.mem_of_getElem? (i := 162) rfl) rfl
theorem ct_X4_166 : Cond.constantLong RX4 166 (20) ∈ tw_T := tw_4 _ (List.mem_of_getElem? (i := 166) rfl) rfl
theorem ml_X4_168 : Cond.methodLink RX4 168 yX4_many ∈ tw_T := tw_4 _ (List.mem_of_getElem? (i := 167) rfl) rfl
theorem ml_L_108 : Cond.methodLink RL 108 yX4_shut ∈ tw_T := tw_4 _ (List.mem_of_getElem? (i := 170) rfl) rfl
theorem ml_L_112 : Cond.methodLink RL 112 yX4_who ∈ tw_T := tw_4 _ (List.mem_of_getElem? (i := 174) rfl) rfl
theorem ml_X4_171 : Cond.methodLink RX4 171 yX4_wants ∈ tw_T := tw_4 _ (List.mem_of_getElem? (i := 178) rfl) rfl
theorem ml_X4_274 : Cond.methodLink RX4 274 yX4_isSheet ∈ tw_T := tw_4 _ (List.mem_of_getElem? (i := 182) rfl) rfl
theorem ct_X4_269 : Cond.constant RX4 269 (-1000006) ∈ tw_T := tw_4 _ (List.mem_of_getElem? (i := 185) rfl) rfl
theorem ml_X4_174 : Cond.methodLink RX4 174 yX4_allBut ∈ tw_T := tw_4 _ (List.mem_of_getElem? (i := 186) rfl) rfl
theorem ml_X4_177 : Cond.methodLink RX4 177 yX4_isTold ∈ tw_T := tw_4 _ (List.mem_of_getElem? (i := 190) rfl) rfl
theorem ml_L_116 : Cond.methodLink RL 116 yX4_fits ∈ tw_T := tw_4 _ (List.mem_of_getElem? (i := 194) rfl) rfl
theorem ml_L_120 : Cond.methodLink RL 120 yX4_kinds ∈ tw_T := tw_4 _ (List.mem_of_getElem? (i := 198) rfl) rfl
theorem ml_X4_181 : Cond.methodLink RX4 181 yX4_isInMood ∈ tw_T := tw_4 _ (List.mem_of_getElem? (i := 202) rfl) rfl
theorem ml_L_124 : Cond.methodLink RL 124 yX4_gales ∈ tw_T := tw_4 _ (List.mem_of_getElem? (i := 206) rfl) rfl
theorem ml_X4_186 : Cond.methodLink RX4 186 yX4_draw ∈ tw_T := tw_4 _ (List.mem_of_getElem? (i := 210) rfl) rfl
theorem ct_X4_185 : Cond.constant RX4 185 (1103515245) ∈ tw_T := tw_4 _ (List.mem_of_getElem? (i := 214) rfl) rfl
theorem ml_L_129 : Cond.methodLink RL 129 yX4_odds ∈ tw_T := tw_4 _ (List.mem_of_getElem? (i := 215) rfl) rfl
theorem ct_X4_189 : Cond.constantLong RX4 189 (8) ∈ tw_T := tw_4 _ (List.mem_of_getElem? (i := 219) rfl) rfl
theorem ct_X4_191 : Cond.constantLong RX4 191 (2) ∈ tw_T := tw_4 _ (List.mem_of_getElem? (i := 220) rfl) rfl
theorem ml_L_133 : Cond.methodLink RL 133 yX4_seed ∈ tw_T := tw_4 _ (List.mem_of_getElem? (i := 221) rfl) rfl
theorem ml_L_137 : Cond.methodLink RL 137 yX4_feed ∈ tw_T := tw_4 _ (List.mem_of_getElem? (i := 225) rfl) rfl
theorem ml_L_142 : Cond.methodLink RL 142 yX4_wipe ∈ tw_T := tw_4 _ (List.mem_of_getElem? (i := 229) rfl) rfl
theorem ml_L_146 : Cond.methodLink RL 146 yX4_text ∈ tw_T := tw_4 _ (List.mem_of_getElem? (i := 233) rfl) rfl
theorem ml_X4_242 : Cond.methodLink RX4 242 yX4_nextToken ∈ tw_T := tw_4 _ (List.mem_of_getElem? (i := 237) rfl) rfl
theorem ml_X4_203 : Cond.methodLink RX4 203 yX4_byteAt ∈ tw_T := tw_5 _ (List.mem_of_getElem? (i := 1) rfl) rfl
theorem ml_X4_206 : Cond.methodLink RX4 206 yX4_isLetter ∈ tw_T := tw_5 _ (List.mem_of_getElem? (i := 5) rfl) rfl
theorem ml_X4_209 : Cond.methodLink RX4 209 yX4_isDigit ∈ tw_T := tw_5 _ (List.mem_of_getElem? (i := 8) rfl) rfl
theorem ml_X4_266 : Cond.methodLink RX4 266 yX4_itemHere ∈ tw_T := tw_5 _ (List.mem_of_getElem? (i := 11) rfl) rfl
theorem ml_X4_248 : Cond.methodLink RX4 248 yX4_kindHere ∈ tw_T := tw_5 _ (List.mem_of_getElem? (i := 15) rfl) rfl
theorem ml_X4_231 : Cond.methodLink RX4 231 yX4_isSix ∈ tw_T := tw_5 _ (List.mem_of_getElem? (i := 19) rfl) rfl
theorem ml_X4_221 : Cond.methodLink RX4 221 yX4_isWord ∈ tw_T := tw_5 _ (List.mem_of_getElem? (i := 23) rfl) rfl
theorem ml_X4_224 : Cond.methodLink RX4 224 yX4_has3 ∈ tw_T := tw_5 _ (List.mem_of_getElem? (i := 27) rfl) rfl
theorem ml_X4_235 : Cond.methodLink RX4 235 yX4_isFive ∈ tw_T := tw_5 _ (List.mem_of_getElem? (i := 31) rfl) rfl
theorem ml_X4_239 : Cond.methodLink RX4 239 yX4_isFour ∈ tw_T := tw_5 _ (List.mem_of_getElem? (i := 35) rfl) rfl
theorem ml_X4_251 : Cond.methodLink RX4 251 yX4_walkerHere ∈ tw_T := tw_5 _ (List.mem_of_getElem? (i := 39) rfl) rfl
theorem ml_X4_227 : Cond.methodLink RX4 227 yX4_fails ∈ tw_T := tw_5 _ (List.mem_of_getElem? (i := 43) rfl) rfl
theorem ml_X4_245 : Cond.methodLink RX4 245 yX4_isNumber ∈ tw_T := tw_5 _ (List.mem_of_getElem? (i := 47) rfl) rfl
theorem ml_X4_254 : Cond.methodLink RX4 254 yX4_standHere ∈ tw_T := tw_5 _ (List.mem_of_getElem? (i := 51) rfl) rfl
theorem ml_X4_257 : Cond.methodLink RX4 257 yX4_gateHere ∈ tw_T := tw_5 _ (List.mem_of_getElem? (i := 55) rfl) rfl
theorem ml_X4_260 : Cond.methodLink RX4 260 yX4_beastsHere ∈ tw_T := tw_5 _ (List.mem_of_getElem? (i := 59) rfl) rfl
theorem ml_X4_263 : Cond.methodLink RX4 263 yX4_windHere ∈ tw_T := tw_5 _ (List.mem_of_getElem? (i := 63) rfl) rfl
theorem ml_L_150 : Cond.methodLink RL 150 yX4_hold ∈ tw_T := tw_5 _ (List.mem_of_getElem? (i := 67) rfl) rfl
theorem ml_L_154 : Cond.methodLink RL 154 yX4_as ∈ tw_T := tw_5 _ (List.mem_of_getElem? (i := 71) rfl) rfl
theorem ml_X4_270 : Cond.methodLink RX4 270 yX4_isUnder ∈ tw_T := tw_5 _ (List.mem_of_getElem? (i := 75) rfl) rfl
theorem ct_X4_273 : Cond.constant RX4 273 (-1000003) ∈ tw_T := tw_5 _ (List.mem_of_getElem? (i := 78) rfl) rfl
theorem ml_L_158 : Cond.methodLink RL 158 yX4_sheet ∈ tw_T := tw_5 _ (List.mem_of_getElem? (i := 79) rfl) rfl
theorem ct_X4_277 : Cond.constant RX4 277 (-1000007) ∈ tw_T := tw_5 _ (List.mem_of_getElem? (i := 83) rfl) rfl
theorem ml_L_162 : Cond.methodLink RL 162 yX4_write ∈ tw_T := tw_5 _ (List.mem_of_getElem? (i := 84) rfl) rfl
theorem ml_L_167 : Cond.methodLink RL 167 yX4_copy ∈ tw_T := tw_5 _ (List.mem_of_getElem? (i := 88) rfl) rfl
theorem ml_L_171 : Cond.methodLink RL 171 yX4_load ∈ tw_T := tw_5 _ (List.mem_of_getElem? (i := 92) rfl) rfl
theorem ml_L_175 : Cond.methodLink RL 175 yX4_judge ∈ tw_T := tw_5 _ (List.mem_of_getElem? (i := 96) rfl) rfl
theorem ml_L_179 : Cond.methodLink RL 179 yX4_image ∈ tw_T := tw_5 _ (List.mem_of_getElem? (i := 100) rfl) rfl
theorem ml_L_183 : Cond.methodLink RL 183 yX4_undo ∈ tw_T := tw_5 _ (List.mem_of_getElem? (i := 104) rfl) rfl
theorem ml_L_187 : Cond.methodLink RL 187 yX4_tear ∈ tw_T := tw_5 _ (List.mem_of_getElem? (i := 108) rfl) rfl
theorem ml_L_191 : Cond.methodLink RL 191 yX4_count ∈ tw_T := tw_5 _ (List.mem_of_getElem? (i := 112) rfl) rfl
theorem ml_L_195 : Cond.methodLink RL 195 yX4_status ∈ tw_T := tw_5 _ (List.mem_of_getElem? (i := 116) rfl) rfl
theorem ct_X4_282 : Cond.constantLong RX4 282 (-1) ∈ tw_T := tw_5 _ (List.mem_of_getElem? (i := 120) rfl) rfl
theorem fl_J0_15 : Cond.fieldLink RJ0 15 "java/lang/String" "coder" "B" ∈ tw_T := tw_5 _ (List.mem_of_getElem? (i := 121) rfl) rfl
theorem fl_J0_9 : Cond.fieldLink RJ0 9 "java/lang/String" "value" "[B" ∈ tw_T := tw_5 _ (List.mem_of_getElem? (i := 122) rfl) rfl
theorem co_X3_init : Cond.code yX3_init cX3_init 2 none ∈ tw_T := tw_1 _ (List.mem_of_getElem? (i := 17) rfl) rfl
theorem im_X3_init : Cond.instanceMethod yX3_init ∈ tw_T := tw_1 _ (List.mem_of_getElem? (i := 16) rfl) rfl
theorem im_objectInit : Cond.instanceMethod objectInit ∈ tw_T := tw_1 _ (List.mem_of_getElem? (i := 19) rfl) rfl
theorem co_objectInit : Cond.code objectInit ⟨#[0xb1]⟩ 1 none ∈ tw_T := tw_1 _ (List.mem_of_getElem? (i := 20) rfl) rfl
theorem co_X0_init : Cond.code yX0_init cX0_init 2 none ∈ tw_T := tw_1 _ (List.mem_of_getElem? (i := 25) rfl) rfl
theorem im_X0_init : Cond.instanceMethod yX0_init ∈ tw_T := tw_1 _ (List.mem_of_getElem? (i := 24) rfl) rfl
theorem co_X2_init : Cond.code yX2_init cX2_init 1 none ∈ tw_T := tw_1 _ (List.mem_of_getElem? (i := 71) rfl) rfl
theorem im_X2_init : Cond.instanceMethod yX2_init ∈ tw_T := tw_1 _ (List.mem_of_getElem? (i := 70) rfl) rfl
theorem co_J0_toCharArray_70df3 : Cond.code yJ0_toCharArray_70df3 cJ0_toCharArray_70df3 1 (some (.array .char)) ∈ tw_T := tw_1 _ (List.mem_of_getElem? (i := 77) rfl) rfl
theorem im_J0_toCharArray_70df3 : Cond.instanceMethod yJ0_toCharArray_70df3 ∈ tw_T := tw_1 _ (List.mem_of_getElem? (i := 75) rfl) rfl
theorem se_J0_toCharArray_70df3 : Cond.selects RJ0 yJ0_toCharArray_70df3 yJ0_toCharArray_70df3 ∈ tw_T := tw_1 _ (List.mem_of_getElem? (i := 76) rfl) rfl
theorem co_J0_isLatin1_aae02 : Cond.code yJ0_isLatin1_aae02 cJ0_isLatin1_aae02 1 (some .boolean) ∈ tw_T := tw_1 _ (List.mem_of_getElem? (i := 81) rfl) rfl
theorem im_J0_isLatin1_aae02 : Cond.instanceMethod yJ0_isLatin1_aae02 ∈ tw_T := tw_1 _ (List.mem_of_getElem? (i := 79) rfl) rfl
theorem se_J0_isLatin1_aae02 : Cond.selects RJ0 yJ0_isLatin1_aae02 yJ0_isLatin1_aae02 ∈ tw_T := tw_1 _ (List.mem_of_getElem? (i := 80) rfl) rfl
theorem co_J1_toChars_9d188 : Cond.code yJ1_toChars_9d188 cJ1_toChars_9d188 2 (some (.array .char)) ∈ tw_T := tw_1 _ (List.mem_of_getElem? (i := 86) rfl) rfl
theorem sm_J1_toChars_9d188 : Cond.static yJ1_toChars_9d188 ∈ tw_T := tw_1 _ (List.mem_of_getElem? (i := 85) rfl) rfl
theorem co_J1_inflate_03870 : Cond.code yJ1_inflate_03870 cJ1_inflate_03870 6 none ∈ tw_T := tw_1 _ (List.mem_of_getElem? (i := 89) rfl) rfl
theorem sm_J1_inflate_03870 : Cond.static yJ1_inflate_03870 ∈ tw_T := tw_1 _ (List.mem_of_getElem? (i := 88) rfl) rfl
theorem co_J2_toChars_9d188 : Cond.code yJ2_toChars_9d188 cJ2_toChars_9d188 2 (some (.array .char)) ∈ tw_T := tw_1 _ (List.mem_of_getElem? (i := 92) rfl) rfl
theorem sm_J2_toChars_9d188 : Cond.static yJ2_toChars_9d188 ∈ tw_T := tw_1 _ (List.mem_of_getElem? (i := 91) rfl) rfl
theorem co_J2_getChars_a1a8b : Cond.code yJ2_getChars_a1a8b cJ2_getChars_a1a8b 6 none ∈ tw_T := tw_1 _ (List.mem_of_getElem? (i := 95) rfl) rfl
theorem sm_J2_getChars_a1a8b : Cond.static yJ2_getChars_a1a8b ∈ tw_T := tw_1 _ (List.mem_of_getElem? (i := 94) rfl) rfl
theorem co_J2_checkBoundsOffCount_d044e : Cond.code yJ2_checkBoundsOffCount_d044e cJ2_checkBoundsOffCount_d044e 3 none ∈ tw_T := tw_1 _ (List.mem_of_getElem? (i := 98) rfl) rfl
theorem sm_J2_checkBoundsOffCount_d044e : Cond.static yJ2_checkBoundsOffCount_d044e ∈ tw_T := tw_1 _ (List.mem_of_getElem? (i := 97) rfl) rfl
theorem co_J2_length_9d52b : Cond.code yJ2_length_9d52b cJ2_length_9d52b 1 (some .int) ∈ tw_T := tw_1 _ (List.mem_of_getElem? (i := 101) rfl) rfl
theorem sm_J2_length_9d52b : Cond.static yJ2_length_9d52b ∈ tw_T := tw_1 _ (List.mem_of_getElem? (i := 100) rfl) rfl
theorem co_J0_checkBoundsOffCount_cabcc : Cond.code yJ0_checkBoundsOffCount_cabcc cJ0_checkBoundsOffCount_cabcc 3 (some .int) ∈ tw_T := tw_1 _ (List.mem_of_getElem? (i := 104) rfl) rfl
theorem sm_J0_checkBoundsOffCount_cabcc : Cond.static yJ0_checkBoundsOffCount_cabcc ∈ tw_T := tw_1 _ (List.mem_of_getElem? (i := 103) rfl) rfl
theorem co_J3_checkFromIndexSize_8c36e : Cond.code yJ3_checkFromIndexSize_8c36e cJ3_checkFromIndexSize_8c36e 4 (some .int) ∈ tw_T := tw_1 _ (List.mem_of_getElem? (i := 109) rfl) rfl
theorem sm_J3_checkFromIndexSize_8c36e : Cond.static yJ3_checkFromIndexSize_8c36e ∈ tw_T := tw_1 _ (List.mem_of_getElem? (i := 108) rfl) rfl
theorem co_J2_getChar_3b067 : Cond.code yJ2_getChar_3b067 cJ2_getChar_3b067 2 (some .char) ∈ tw_T := tw_1 _ (List.mem_of_getElem? (i := 112) rfl) rfl
theorem sm_J2_getChar_3b067 : Cond.static yJ2_getChar_3b067 ∈ tw_T := tw_1 _ (List.mem_of_getElem? (i := 111) rfl) rfl
theorem co_X1_init : Cond.code yX1_init cX1_init 1 none ∈ tw_T := tw_1 _ (List.mem_of_getElem? (i := 149) rfl) rfl
theorem im_X1_init : Cond.instanceMethod yX1_init ∈ tw_T := tw_1 _ (List.mem_of_getElem? (i := 148) rfl) rfl
theorem co_X3_beasts : Cond.code yX3_beasts cX3_beasts 4 (some .int) ∈ tw_T := tw_1 _ (List.mem_of_getElem? (i := 191) rfl) rfl
theorem im_X3_beasts : Cond.instanceMethod yX3_beasts ∈ tw_T := tw_1 _ (List.mem_of_getElem? (i := 189) rfl) rfl
theorem se_X3_beasts : Cond.selects RX3 yX3_beasts yX3_beasts ∈ tw_T := tw_1 _ (List.mem_of_getElem? (i := 190) rfl) rfl
theorem co_X3_isField : Cond.code yX3_isField cX3_isField 1 (some .boolean) ∈ tw_T := tw_1 _ (List.mem_of_getElem? (i := 194) rfl) rfl
theorem sm_X3_isField : Cond.static yX3_isField ∈ tw_T := tw_1 _ (List.mem_of_getElem? (i := 193) rfl) rfl
theorem co_X3_isIn : Cond.code yX3_isIn cX3_isIn 3 (some .boolean) ∈ tw_T := tw_1 _ (List.mem_of_getElem? (i := 197) rfl) rfl
theorem sm_X3_isIn : Cond.static yX3_isIn ∈ tw_T := tw_1 _ (List.mem_of_getElem? (i := 196) rfl) rfl
theorem co_X3_finding : Cond.code yX3_finding cX3_finding 2 (some .int) ∈ tw_T := tw_1 _ (List.mem_of_getElem? (i := 201) rfl) rfl
theorem im_X3_finding : Cond.instanceMethod yX3_finding ∈ tw_T := tw_1 _ (List.mem_of_getElem? (i := 200) rfl) rfl
theorem se_X3_finding : Cond.selects RX3 yX3_finding yX3_finding ∈ tw_T := List.mem_filter.mpr ⟨List.mem_append_left _ (List.mem_of_getElem? (i := 0) rfl), rfl⟩
theorem co_X3_field : Cond.code yX3_field cX3_field 3 (some .int) ∈ tw_T := tw_1 _ (List.mem_of_getElem? (i := 206) rfl) rfl
theorem im_X3_field : Cond.instanceMethod yX3_field ∈ tw_T := tw_1 _ (List.mem_of_getElem? (i := 204) rfl) rfl
theorem se_X3_field : Cond.selects RX3 yX3_field yX3_field ∈ tw_T := tw_1 _ (List.mem_of_getElem? (i := 205) rfl) rfl
theorem co_X0_walkersIn : Cond.code yX0_walkersIn cX0_walkersIn 4 (some .int) ∈ tw_T := tw_1 _ (List.mem_of_getElem? (i := 210) rfl) rfl
theorem im_X0_walkersIn : Cond.instanceMethod yX0_walkersIn ∈ tw_T := tw_1 _ (List.mem_of_getElem? (i := 208) rfl) rfl
theorem se_X0_walkersIn : Cond.selects RX0 yX0_walkersIn yX0_walkersIn ∈ tw_T := tw_1 _ (List.mem_of_getElem? (i := 209) rfl) rfl
theorem co_X3_gate : Cond.code yX3_gate cX3_gate 4 (some .int) ∈ tw_T := tw_1 _ (List.mem_of_getElem? (i := 214) rfl) rfl
theorem im_X3_gate : Cond.instanceMethod yX3_gate ∈ tw_T := tw_1 _ (List.mem_of_getElem? (i := 212) rfl) rfl
theorem se_X3_gate : Cond.selects RX3 yX3_gate yX3_gate ∈ tw_T := tw_1 _ (List.mem_of_getElem? (i := 213) rfl) rfl
theorem co_X3_isGate : Cond.code yX3_isGate cX3_isGate 1 (some .boolean) ∈ tw_T := tw_1 _ (List.mem_of_getElem? (i := 217) rfl) rfl
theorem sm_X3_isGate : Cond.static yX3_isGate ∈ tw_T := tw_1 _ (List.mem_of_getElem? (i := 216) rfl) rfl
theorem co_X3_isManner : Cond.code yX3_isManner cX3_isManner 1 (some .boolean) ∈ tw_T := tw_1 _ (List.mem_of_getElem? (i := 220) rfl) rfl
theorem sm_X3_isManner : Cond.static yX3_isManner ∈ tw_T := tw_1 _ (List.mem_of_getElem? (i := 219) rfl) rfl
theorem co_X3_stands : Cond.code yX3_stands cX3_stands 2 (some .int) ∈ tw_T := tw_1 _ (List.mem_of_getElem? (i := 224) rfl) rfl
theorem im_X3_stands : Cond.instanceMethod yX3_stands ∈ tw_T := tw_1 _ (List.mem_of_getElem? (i := 222) rfl) rfl
theorem se_X3_stands : Cond.selects RX3 yX3_stands yX3_stands ∈ tw_T := tw_1 _ (List.mem_of_getElem? (i := 223) rfl) rfl
theorem co_X3_wind : Cond.code yX3_wind cX3_wind 3 (some .int) ∈ tw_T := tw_1 _ (List.mem_of_getElem? (i := 228) rfl) rfl
theorem im_X3_wind : Cond.instanceMethod yX3_wind ∈ tw_T := tw_1 _ (List.mem_of_getElem? (i := 226) rfl) rfl
theorem se_X3_wind : Cond.selects RX3 yX3_wind yX3_wind ∈ tw_T := tw_1 _ (List.mem_of_getElem? (i := 227) rfl) rfl
theorem co_X3_walker : Cond.code yX3_walker cX3_walker 3 (some .int) ∈ tw_T := tw_1 _ (List.mem_of_getElem? (i := 232) rfl) rfl
theorem im_X3_walker : Cond.instanceMethod yX3_walker ∈ tw_T := tw_1 _ (List.mem_of_getElem? (i := 230) rfl) rfl
theorem se_X3_walker : Cond.selects RX3 yX3_walker yX3_walker ∈ tw_T := tw_1 _ (List.mem_of_getElem? (i := 231) rfl) rfl
theorem co_X3_isKind : Cond.code yX3_isKind cX3_isKind 1 (some .boolean) ∈ tw_T := tw_1 _ (List.mem_of_getElem? (i := 235) rfl) rfl
theorem sm_X3_isKind : Cond.static yX3_isKind ∈ tw_T := tw_1 _ (List.mem_of_getElem? (i := 234) rfl) rfl
theorem co_X0_addWalker : Cond.code yX0_addWalker cX0_addWalker 4 (some .int) ∈ tw_T := tw_1 _ (List.mem_of_getElem? (i := 239) rfl) rfl
theorem im_X0_addWalker : Cond.instanceMethod yX0_addWalker ∈ tw_T := tw_1 _ (List.mem_of_getElem? (i := 237) rfl) rfl
theorem se_X0_addWalker : Cond.selects RX0 yX0_addWalker yX0_addWalker ∈ tw_T := tw_1 _ (List.mem_of_getElem? (i := 238) rfl) rfl
theorem co_X3_of : Cond.code yX3_of cX3_of 3 (some .int) ∈ tw_T := tw_2 _ (List.mem_of_getElem? (i := 3) rfl) rfl
theorem im_X3_of : Cond.instanceMethod yX3_of ∈ tw_T := tw_2 _ (List.mem_of_getElem? (i := 1) rfl) rfl
theorem se_X3_of : Cond.selects RX3 yX3_of yX3_of ∈ tw_T := tw_2 _ (List.mem_of_getElem? (i := 2) rfl) rfl
theorem co_X3_isWalker : Cond.code yX3_isWalker cX3_isWalker 2 (some .boolean) ∈ tw_T := tw_2 _ (List.mem_of_getElem? (i := 7) rfl) rfl
theorem im_X3_isWalker : Cond.instanceMethod yX3_isWalker ∈ tw_T := tw_2 _ (List.mem_of_getElem? (i := 6) rfl) rfl
theorem se_X3_isWalker : Cond.selects RX3 yX3_isWalker yX3_isWalker ∈ tw_T := List.mem_filter.mpr ⟨List.mem_append_left _ (List.mem_of_getElem? (i := 1) rfl), rfl⟩
theorem co_X0_goesOf : Cond.code yX0_goesOf cX0_goesOf 3 (some .int) ∈ tw_T := tw_2 _ (List.mem_of_getElem? (i := 11) rfl) rfl
theorem im_X0_goesOf : Cond.instanceMethod yX0_goesOf ∈ tw_T := tw_2 _ (List.mem_of_getElem? (i := 9) rfl) rfl
theorem se_X0_goesOf : Cond.selects RX0 yX0_goesOf yX0_goesOf ∈ tw_T := tw_2 _ (List.mem_of_getElem? (i := 10) rfl) rfl
theorem co_X3_change : Cond.code yX3_change cX3_change 5 (some .int) ∈ tw_T := tw_2 _ (List.mem_of_getElem? (i := 15) rfl) rfl
theorem im_X3_change : Cond.instanceMethod yX3_change ∈ tw_T := tw_2 _ (List.mem_of_getElem? (i := 13) rfl) rfl
theorem se_X3_change : Cond.selects RX3 yX3_change yX3_change ∈ tw_T := tw_2 _ (List.mem_of_getElem? (i := 14) rfl) rfl
theorem co_X3_leaves : Cond.code yX3_leaves cX3_leaves 4 (some .int) ∈ tw_T := tw_2 _ (List.mem_of_getElem? (i := 21) rfl) rfl
theorem im_X3_leaves : Cond.instanceMethod yX3_leaves ∈ tw_T := tw_2 _ (List.mem_of_getElem? (i := 19) rfl) rfl
theorem se_X3_leaves : Cond.selects RX3 yX3_leaves yX3_leaves ∈ tw_T := tw_2 _ (List.mem_of_getElem? (i := 20) rfl) rfl
theorem co_X0_leftBy : Cond.code yX0_leftBy cX0_leftBy 6 (some .int) ∈ tw_T := tw_2 _ (List.mem_of_getElem? (i := 25) rfl) rfl
theorem im_X0_leftBy : Cond.instanceMethod yX0_leftBy ∈ tw_T := tw_2 _ (List.mem_of_getElem? (i := 23) rfl) rfl
theorem se_X0_leftBy : Cond.selects RX0 yX0_leftBy yX0_leftBy ∈ tw_T := tw_2 _ (List.mem_of_getElem? (i := 24) rfl) rfl
theorem co_X0_feltBy : Cond.code yX0_feltBy cX0_feltBy 7 (some .int) ∈ tw_T := tw_2 _ (List.mem_of_getElem? (i := 29) rfl) rfl
theorem im_X0_feltBy : Cond.instanceMethod yX0_feltBy ∈ tw_T := tw_2 _ (List.mem_of_getElem? (i := 27) rfl) rfl
theorem se_X0_feltBy : Cond.selects RX0 yX0_feltBy yX0_feltBy ∈ tw_T := tw_2 _ (List.mem_of_getElem? (i := 28) rfl) rfl
theorem co_J9_min_7cf53 : Cond.code yJ9_min_7cf53 cJ9_min_7cf53 2 (some .int) ∈ tw_T := tw_2 _ (List.mem_of_getElem? (i := 32) rfl) rfl
theorem sm_J9_min_7cf53 : Cond.static yJ9_min_7cf53 ∈ tw_T := tw_2 _ (List.mem_of_getElem? (i := 31) rfl) rfl
theorem co_J9_max_7cf53 : Cond.code yJ9_max_7cf53 cJ9_max_7cf53 2 (some .int) ∈ tw_T := tw_2 _ (List.mem_of_getElem? (i := 35) rfl) rfl
theorem sm_J9_max_7cf53 : Cond.static yJ9_max_7cf53 ∈ tw_T := tw_2 _ (List.mem_of_getElem? (i := 34) rfl) rfl
theorem co_X3_go : Cond.code yX3_go cX3_go 2 (some .int) ∈ tw_T := tw_2 _ (List.mem_of_getElem? (i := 39) rfl) rfl
theorem im_X3_go : Cond.instanceMethod yX3_go ∈ tw_T := tw_2 _ (List.mem_of_getElem? (i := 37) rfl) rfl
theorem se_X3_go : Cond.selects RX3 yX3_go yX3_go ∈ tw_T := tw_2 _ (List.mem_of_getElem? (i := 38) rfl) rfl
theorem co_X0_passHours : Cond.code yX0_passHours cX0_passHours 5 none ∈ tw_T := tw_2 _ (List.mem_of_getElem? (i := 44) rfl) rfl
theorem im_X0_passHours : Cond.instanceMethod yX0_passHours ∈ tw_T := tw_2 _ (List.mem_of_getElem? (i := 42) rfl) rfl
theorem se_X0_passHours : Cond.selects RX0 yX0_passHours yX0_passHours ∈ tw_T := tw_2 _ (List.mem_of_getElem? (i := 43) rfl) rfl
theorem co_X0_letGo : Cond.code yX0_letGo cX0_letGo 4 none ∈ tw_T := tw_2 _ (List.mem_of_getElem? (i := 48) rfl) rfl
theorem im_X0_letGo : Cond.instanceMethod yX0_letGo ∈ tw_T := tw_2 _ (List.mem_of_getElem? (i := 46) rfl) rfl
theorem se_X0_letGo : Cond.selects RX0 yX0_letGo yX0_letGo ∈ tw_T := tw_2 _ (List.mem_of_getElem? (i := 47) rfl) rfl
theorem co_X0_passOrTurn : Cond.code yX0_passOrTurn cX0_passOrTurn 5 none ∈ tw_T := tw_2 _ (List.mem_of_getElem? (i := 53) rfl) rfl
theorem im_X0_passOrTurn : Cond.instanceMethod yX0_passOrTurn ∈ tw_T := tw_2 _ (List.mem_of_getElem? (i := 51) rfl) rfl
theorem se_X0_passOrTurn : Cond.selects RX0 yX0_passOrTurn yX0_passOrTurn ∈ tw_T := tw_2 _ (List.mem_of_getElem? (i := 52) rfl) rfl
theorem co_X0_moveBeasts : Cond.code yX0_moveBeasts cX0_moveBeasts 5 none ∈ tw_T := tw_2 _ (List.mem_of_getElem? (i := 59) rfl) rfl
theorem im_X0_moveBeasts : Cond.instanceMethod yX0_moveBeasts ∈ tw_T := tw_2 _ (List.mem_of_getElem? (i := 57) rfl) rfl
theorem se_X0_moveBeasts : Cond.selects RX0 yX0_moveBeasts yX0_moveBeasts ∈ tw_T := tw_2 _ (List.mem_of_getElem? (i := 58) rfl) rfl
theorem co_X0_through : Cond.code yX0_through cX0_through 2 (some .int) ∈ tw_T := tw_2 _ (List.mem_of_getElem? (i := 62) rfl) rfl
theorem sm_X0_through : Cond.static yX0_through ∈ tw_T := tw_2 _ (List.mem_of_getElem? (i := 61) rfl) rfl
theorem co_X0_blowShut : Cond.code yX0_blowShut cX0_blowShut 2 none ∈ tw_T := tw_2 _ (List.mem_of_getElem? (i := 66) rfl) rfl
theorem im_X0_blowShut : Cond.instanceMethod yX0_blowShut ∈ tw_T := tw_2 _ (List.mem_of_getElem? (i := 64) rfl) rfl
theorem se_X0_blowShut : Cond.selects RX0 yX0_blowShut yX0_blowShut ∈ tw_T := tw_2 _ (List.mem_of_getElem? (i := 65) rfl) rfl
theorem co_X0_standingByFour : Cond.code yX0_standingByFour cX0_standingByFour 3 (some .int) ∈ tw_T := tw_2 _ (List.mem_of_getElem? (i := 71) rfl) rfl
theorem im_X0_standingByFour : Cond.instanceMethod yX0_standingByFour ∈ tw_T := tw_2 _ (List.mem_of_getElem? (i := 69) rfl) rfl
theorem se_X0_standingByFour : Cond.selects RX0 yX0_standingByFour yX0_standingByFour ∈ tw_T := tw_2 _ (List.mem_of_getElem? (i := 70) rfl) rfl
theorem co_X3_now : Cond.code yX3_now cX3_now 2 (some .int) ∈ tw_T := tw_2 _ (List.mem_of_getElem? (i := 75) rfl) rfl
theorem im_X3_now : Cond.instanceMethod yX3_now ∈ tw_T := tw_2 _ (List.mem_of_getElem? (i := 73) rfl) rfl
theorem se_X3_now : Cond.selects RX3 yX3_now yX3_now ∈ tw_T := tw_2 _ (List.mem_of_getElem? (i := 74) rfl) rfl
theorem co_X0_allBeasts : Cond.code yX0_allBeasts cX0_allBeasts 3 (some .int) ∈ tw_T := tw_2 _ (List.mem_of_getElem? (i := 79) rfl) rfl
theorem im_X0_allBeasts : Cond.instanceMethod yX0_allBeasts ∈ tw_T := tw_2 _ (List.mem_of_getElem? (i := 77) rfl) rfl
theorem se_X0_allBeasts : Cond.selects RX0 yX0_allBeasts yX0_allBeasts ∈ tw_T := tw_2 _ (List.mem_of_getElem? (i := 78) rfl) rfl
theorem co_X0_notShut : Cond.code yX0_notShut cX0_notShut 3 (some .int) ∈ tw_T := tw_2 _ (List.mem_of_getElem? (i := 83) rfl) rfl
theorem im_X0_notShut : Cond.instanceMethod yX0_notShut ∈ tw_T := tw_2 _ (List.mem_of_getElem? (i := 81) rfl) rfl
theorem se_X0_notShut : Cond.selects RX0 yX0_notShut yX0_notShut ∈ tw_T := tw_2 _ (List.mem_of_getElem? (i := 82) rfl) rfl
theorem co_X0_allPassed : Cond.code yX0_allPassed cX0_allPassed 3 (some .int) ∈ tw_T := tw_2 _ (List.mem_of_getElem? (i := 87) rfl) rfl
theorem im_X0_allPassed : Cond.instanceMethod yX0_allPassed ∈ tw_T := tw_2 _ (List.mem_of_getElem? (i := 85) rfl) rfl
theorem se_X0_allPassed : Cond.selects RX0 yX0_allPassed yX0_allPassed ∈ tw_T := tw_2 _ (List.mem_of_getElem? (i := 86) rfl) rfl
theorem co_X0_fullestField : Cond.code yX0_fullestField cX0_fullestField 3 (some .int) ∈ tw_T := tw_2 _ (List.mem_of_getElem? (i := 91) rfl) rfl
theorem im_X0_fullestField : Cond.instanceMethod yX0_fullestField ∈ tw_T := tw_2 _ (List.mem_of_getElem? (i := 89) rfl) rfl
theorem se_X0_fullestField : Cond.selects RX0 yX0_fullestField yX0_fullestField ∈ tw_T := tw_2 _ (List.mem_of_getElem? (i := 90) rfl) rfl
theorem co_X3_ahead : Cond.code yX3_ahead cX3_ahead 3 (some .int) ∈ tw_T := tw_2 _ (List.mem_of_getElem? (i := 95) rfl) rfl
theorem im_X3_ahead : Cond.instanceMethod yX3_ahead ∈ tw_T := tw_2 _ (List.mem_of_getElem? (i := 93) rfl) rfl
theorem se_X3_ahead : Cond.selects RX3 yX3_ahead yX3_ahead ∈ tw_T := tw_2 _ (List.mem_of_getElem? (i := 94) rfl) rfl
theorem co_X3_tryHours : Cond.code yX3_tryHours cX3_tryHours 2 none ∈ tw_T := tw_2 _ (List.mem_of_getElem? (i := 99) rfl) rfl
theorem im_X3_tryHours : Cond.instanceMethod yX3_tryHours ∈ tw_T := tw_2 _ (List.mem_of_getElem? (i := 98) rfl) rfl
theorem se_X3_tryHours : Cond.selects RX3 yX3_tryHours yX3_tryHours ∈ tw_T := List.mem_filter.mpr ⟨List.mem_append_left _ (List.mem_of_getElem? (i := 2) rfl), rfl⟩
theorem co_X0_become : Cond.code yX0_become cX0_become 3 none ∈ tw_T := tw_2 _ (List.mem_of_getElem? (i := 103) rfl) rfl
theorem im_X0_become : Cond.instanceMethod yX0_become ∈ tw_T := tw_2 _ (List.mem_of_getElem? (i := 101) rfl) rfl
theorem se_X0_become : Cond.selects RX0 yX0_become yX0_become ∈ tw_T := tw_2 _ (List.mem_of_getElem? (i := 102) rfl) rfl
theorem na_arraycopy : Cond.native arraycopyName ∈ tw_T := tw_2 _ (List.mem_of_getElem? (i := 106) rfl) rfl
theorem sm_arraycopy : Cond.static arraycopyName ∈ tw_T := tw_2 _ (List.mem_of_getElem? (i := 105) rfl) rfl
theorem co_X3_stand : Cond.code yX3_stand cX3_stand 3 (some .int) ∈ tw_T := tw_2 _ (List.mem_of_getElem? (i := 110) rfl) rfl
theorem im_X3_stand : Cond.instanceMethod yX3_stand ∈ tw_T := tw_2 _ (List.mem_of_getElem? (i := 108) rfl) rfl
theorem se_X3_stand : Cond.selects RX3 yX3_stand yX3_stand ∈ tw_T := tw_2 _ (List.mem_of_getElem? (i := 109) rfl) rfl
theorem co_X3_where : Cond.code yX3_where cX3_where 4 (some .int) ∈ tw_T := tw_2 _ (List.mem_of_getElem? (i := 114) rfl) rfl
theorem im_X3_where : Cond.instanceMethod yX3_where ∈ tw_T := tw_2 _ (List.mem_of_getElem? (i := 112) rfl) rfl
theorem se_X3_where : Cond.selects RX3 yX3_where yX3_where ∈ tw_T := tw_2 _ (List.mem_of_getElem? (i := 113) rfl) rfl
theorem co_X3_corn : Cond.code yX3_corn cX3_corn 4 (some .int) ∈ tw_T := tw_2 _ (List.mem_of_getElem? (i := 118) rfl) rfl
theorem im_X3_corn : Cond.instanceMethod yX3_corn ∈ tw_T := tw_2 _ (List.mem_of_getElem? (i := 116) rfl) rfl
theorem se_X3_corn : Cond.selects RX3 yX3_corn yX3_corn ∈ tw_T := tw_2 _ (List.mem_of_getElem? (i := 117) rfl) rfl
theorem co_X3_when : Cond.code yX3_when cX3_when 4 (some .int) ∈ tw_T := tw_2 _ (List.mem_of_getElem? (i := 122) rfl) rfl
theorem im_X3_when : Cond.instanceMethod yX3_when ∈ tw_T := tw_2 _ (List.mem_of_getElem? (i := 120) rfl) rfl
theorem se_X3_when : Cond.selects RX3 yX3_when yX3_when ∈ tw_T := tw_2 _ (List.mem_of_getElem? (i := 121) rfl) rfl
theorem co_X3_meet : Cond.code yX3_meet cX3_meet 4 (some .int) ∈ tw_T := tw_2 _ (List.mem_of_getElem? (i := 126) rfl) rfl
theorem im_X3_meet : Cond.instanceMethod yX3_meet ∈ tw_T := tw_2 _ (List.mem_of_getElem? (i := 124) rfl) rfl
theorem se_X3_meet : Cond.selects RX3 yX3_meet yX3_meet ∈ tw_T := tw_2 _ (List.mem_of_getElem? (i := 125) rfl) rfl
theorem co_X3_start : Cond.code yX3_start cX3_start 6 (some .int) ∈ tw_T := tw_2 _ (List.mem_of_getElem? (i := 130) rfl) rfl
theorem im_X3_start : Cond.instanceMethod yX3_start ∈ tw_T := tw_2 _ (List.mem_of_getElem? (i := 128) rfl) rfl
theorem se_X3_start : Cond.selects RX3 yX3_start yX3_start ∈ tw_T := tw_2 _ (List.mem_of_getElem? (i := 129) rfl) rfl
theorem co_X3_isWish : Cond.code yX3_isWish cX3_isWish 5 (some .boolean) ∈ tw_T := tw_2 _ (List.mem_of_getElem? (i := 134) rfl) rfl
theorem im_X3_isWish : Cond.instanceMethod yX3_isWish ∈ tw_T := tw_2 _ (List.mem_of_getElem? (i := 133) rfl) rfl
theorem se_X3_isWish : Cond.selects RX3 yX3_isWish yX3_isWish ∈ tw_T := List.mem_filter.mpr ⟨List.mem_append_left _ (List.mem_of_getElem? (i := 3) rfl), rfl⟩
theorem co_X3_valuesFor : Cond.code yX3_valuesFor cX3_valuesFor 8 (some .int) ∈ tw_T := tw_2 _ (List.mem_of_getElem? (i := 138) rfl) rfl
theorem im_X3_valuesFor : Cond.instanceMethod yX3_valuesFor ∈ tw_T := tw_2 _ (List.mem_of_getElem? (i := 137) rfl) rfl
theorem se_X3_valuesFor : Cond.selects RX3 yX3_valuesFor yX3_valuesFor ∈ tw_T := List.mem_filter.mpr ⟨List.mem_append_left _ (List.mem_of_getElem? (i := 4) rfl), rfl⟩
theorem co_J6_numberOfTrailingZeros_0f7a4 : Cond.code yJ6_numberOfTrailingZeros_0f7a4 cJ6_numberOfTrailingZeros_0f7a4 2 (some .int) ∈ tw_T := tw_2 _ (List.mem_of_getElem? (i := 141) rfl) rfl
theorem sm_J6_numberOfTrailingZeros_0f7a4 : Cond.static yJ6_numberOfTrailingZeros_0f7a4 ∈ tw_T := tw_2 _ (List.mem_of_getElem? (i := 140) rfl) rfl
theorem co_X3_kindsFor : Cond.code yX3_kindsFor cX3_kindsFor 5 (some .int) ∈ tw_T := tw_2 _ (List.mem_of_getElem? (i := 146) rfl) rfl
theorem im_X3_kindsFor : Cond.instanceMethod yX3_kindsFor ∈ tw_T := tw_2 _ (List.mem_of_getElem? (i := 144) rfl) rfl
theorem se_X3_kindsFor : Cond.selects RX3 yX3_kindsFor yX3_kindsFor ∈ tw_T := tw_2 _ (List.mem_of_getElem? (i := 145) rfl) rfl
theorem co_X3_moods : Cond.code yX3_moods cX3_moods 5 (some .int) ∈ tw_T := tw_2 _ (List.mem_of_getElem? (i := 150) rfl) rfl
theorem im_X3_moods : Cond.instanceMethod yX3_moods ∈ tw_T := tw_2 _ (List.mem_of_getElem? (i := 148) rfl) rfl
theorem se_X3_moods : Cond.selects RX3 yX3_moods yX3_moods ∈ tw_T := tw_2 _ (List.mem_of_getElem? (i := 149) rfl) rfl
theorem co_X3_windFor : Cond.code yX3_windFor cX3_windFor 5 (some .int) ∈ tw_T := tw_2 _ (List.mem_of_getElem? (i := 154) rfl) rfl
theorem im_X3_windFor : Cond.instanceMethod yX3_windFor ∈ tw_T := tw_2 _ (List.mem_of_getElem? (i := 152) rfl) rfl
theorem se_X3_windFor : Cond.selects RX3 yX3_windFor yX3_windFor ∈ tw_T := tw_2 _ (List.mem_of_getElem? (i := 153) rfl) rfl
theorem co_X3_home : Cond.code yX3_home cX3_home 6 (some .int) ∈ tw_T := tw_2 _ (List.mem_of_getElem? (i := 158) rfl) rfl
theorem im_X3_home : Cond.instanceMethod yX3_home ∈ tw_T := tw_2 _ (List.mem_of_getElem? (i := 156) rfl) rfl
theorem se_X3_home : Cond.selects RX3 yX3_home yX3_home ∈ tw_T := tw_2 _ (List.mem_of_getElem? (i := 157) rfl) rfl
theorem co_X3_leastHome : Cond.code yX3_leastHome cX3_leastHome 6 (some .int) ∈ tw_T := tw_2 _ (List.mem_of_getElem? (i := 162) rfl) rfl
theorem im_X3_leastHome : Cond.instanceMethod yX3_leastHome ∈ tw_T := tw_2 _ (List.mem_of_getElem? (i := 161) rfl) rfl
theorem se_X3_leastHome : Cond.selects RX3 yX3_leastHome yX3_leastHome ∈ tw_T := List.mem_filter.mpr ⟨List.mem_append_left _ (List.mem_of_getElem? (i := 5) rfl), rfl⟩
theorem co_J6_bitCount_0f7a4 : Cond.code yJ6_bitCount_0f7a4 cJ6_bitCount_0f7a4 1 (some .int) ∈ tw_T := tw_2 _ (List.mem_of_getElem? (i := 165) rfl) rfl
theorem sm_J6_bitCount_0f7a4 : Cond.static yJ6_bitCount_0f7a4 ∈ tw_T := tw_2 _ (List.mem_of_getElem? (i := 164) rfl) rfl
theorem co_X3_shut : Cond.code yX3_shut cX3_shut 6 (some .int) ∈ tw_T := tw_2 _ (List.mem_of_getElem? (i := 172) rfl) rfl
theorem im_X3_shut : Cond.instanceMethod yX3_shut ∈ tw_T := tw_2 _ (List.mem_of_getElem? (i := 170) rfl) rfl
theorem se_X3_shut : Cond.selects RX3 yX3_shut yX3_shut ∈ tw_T := tw_2 _ (List.mem_of_getElem? (i := 171) rfl) rfl
theorem co_X3_who : Cond.code yX3_who cX3_who 5 (some .int) ∈ tw_T := tw_2 _ (List.mem_of_getElem? (i := 176) rfl) rfl
theorem im_X3_who : Cond.instanceMethod yX3_who ∈ tw_T := tw_2 _ (List.mem_of_getElem? (i := 174) rfl) rfl
theorem se_X3_who : Cond.selects RX3 yX3_who yX3_who ∈ tw_T := tw_2 _ (List.mem_of_getElem? (i := 175) rfl) rfl
theorem co_X3_wrongSheet : Cond.code yX3_wrongSheet cX3_wrongSheet 2 (some .int) ∈ tw_T := tw_2 _ (List.mem_of_getElem? (i := 180) rfl) rfl
theorem im_X3_wrongSheet : Cond.instanceMethod yX3_wrongSheet ∈ tw_T := tw_2 _ (List.mem_of_getElem? (i := 179) rfl) rfl
theorem se_X3_wrongSheet : Cond.selects RX3 yX3_wrongSheet yX3_wrongSheet ∈ tw_T := List.mem_filter.mpr ⟨List.mem_append_left _ (List.mem_of_getElem? (i := 6) rfl), rfl⟩
theorem co_X3_isSheet : Cond.code yX3_isSheet cX3_isSheet 1 (some .boolean) ∈ tw_T := tw_2 _ (List.mem_of_getElem? (i := 183) rfl) rfl
theorem sm_X3_isSheet : Cond.static yX3_isSheet ∈ tw_T := tw_2 _ (List.mem_of_getElem? (i := 182) rfl) rfl
theorem co_X1_isMissing : Cond.code yX1_isMissing cX1_isMissing 1 (some .boolean) ∈ tw_T := tw_2 _ (List.mem_of_getElem? (i := 187) rfl) rfl
theorem im_X1_isMissing : Cond.instanceMethod yX1_isMissing ∈ tw_T := tw_2 _ (List.mem_of_getElem? (i := 185) rfl) rfl
theorem se_X1_isMissing : Cond.selects RX1 yX1_isMissing yX1_isMissing ∈ tw_T := tw_2 _ (List.mem_of_getElem? (i := 186) rfl) rfl
theorem co_X0_standsAsTold : Cond.code yX0_standsAsTold cX0_standsAsTold 3 (some .boolean) ∈ tw_T := tw_2 _ (List.mem_of_getElem? (i := 191) rfl) rfl
theorem im_X0_standsAsTold : Cond.instanceMethod yX0_standsAsTold ∈ tw_T := tw_2 _ (List.mem_of_getElem? (i := 189) rfl) rfl
theorem se_X0_standsAsTold : Cond.selects RX0 yX0_standsAsTold yX0_standsAsTold ∈ tw_T := tw_2 _ (List.mem_of_getElem? (i := 190) rfl) rfl
theorem co_X3_fits : Cond.code yX3_fits cX3_fits 7 (some .int) ∈ tw_T := tw_2 _ (List.mem_of_getElem? (i := 195) rfl) rfl
theorem im_X3_fits : Cond.instanceMethod yX3_fits ∈ tw_T := tw_2 _ (List.mem_of_getElem? (i := 193) rfl) rfl
theorem se_X3_fits : Cond.selects RX3 yX3_fits yX3_fits ∈ tw_T := tw_2 _ (List.mem_of_getElem? (i := 194) rfl) rfl
theorem co_X3_kinds : Cond.code yX3_kinds cX3_kinds 6 (some .int) ∈ tw_T := tw_2 _ (List.mem_of_getElem? (i := 199) rfl) rfl
theorem im_X3_kinds : Cond.instanceMethod yX3_kinds ∈ tw_T := tw_2 _ (List.mem_of_getElem? (i := 197) rfl) rfl
theorem se_X3_kinds : Cond.selects RX3 yX3_kinds yX3_kinds ∈ tw_T := tw_2 _ (List.mem_of_getElem? (i := 198) rfl) rfl
theorem co_X3_feelsAsTold : Cond.code yX3_feelsAsTold cX3_feelsAsTold 5 (some .boolean) ∈ tw_T := tw_2 _ (List.mem_of_getElem? (i := 203) rfl) rfl
theorem im_X3_feelsAsTold : Cond.instanceMethod yX3_feelsAsTold ∈ tw_T := tw_2 _ (List.mem_of_getElem? (i := 202) rfl) rfl
theorem se_X3_feelsAsTold : Cond.selects RX3 yX3_feelsAsTold yX3_feelsAsTold ∈ tw_T := List.mem_filter.mpr ⟨List.mem_append_left _ (List.mem_of_getElem? (i := 7) rfl), rfl⟩
theorem co_X3_gales : Cond.code yX3_gales cX3_gales 3 (some .int) ∈ tw_T := tw_2 _ (List.mem_of_getElem? (i := 207) rfl) rfl
theorem im_X3_gales : Cond.instanceMethod yX3_gales ∈ tw_T := tw_2 _ (List.mem_of_getElem? (i := 205) rfl) rfl
theorem se_X3_gales : Cond.selects RX3 yX3_gales yX3_gales ∈ tw_T := tw_2 _ (List.mem_of_getElem? (i := 206) rfl) rfl
theorem co_X0_draw : Cond.code yX0_draw cX0_draw 1 (some .int) ∈ tw_T := tw_2 _ (List.mem_of_getElem? (i := 211) rfl) rfl
theorem im_X0_draw : Cond.instanceMethod yX0_draw ∈ tw_T := tw_2 _ (List.mem_of_getElem? (i := 209) rfl) rfl
theorem se_X0_draw : Cond.selects RX0 yX0_draw yX0_draw ∈ tw_T := tw_2 _ (List.mem_of_getElem? (i := 210) rfl) rfl
theorem co_X3_odds : Cond.code yX3_odds cX3_odds 6 (some .long) ∈ tw_T := tw_2 _ (List.mem_of_getElem? (i := 216) rfl) rfl
theorem im_X3_odds : Cond.instanceMethod yX3_odds ∈ tw_T := tw_2 _ (List.mem_of_getElem? (i := 214) rfl) rfl
theorem se_X3_odds : Cond.selects RX3 yX3_odds yX3_odds ∈ tw_T := tw_2 _ (List.mem_of_getElem? (i := 215) rfl) rfl
theorem co_X3_power : Cond.code yX3_power cX3_power 5 (some .long) ∈ tw_T := tw_2 _ (List.mem_of_getElem? (i := 219) rfl) rfl
theorem sm_X3_power : Cond.static yX3_power ∈ tw_T := tw_2 _ (List.mem_of_getElem? (i := 218) rfl) rfl
theorem co_X3_seed : Cond.code yX3_seed cX3_seed 3 (some .int) ∈ tw_T := tw_2 _ (List.mem_of_getElem? (i := 223) rfl) rfl
theorem im_X3_seed : Cond.instanceMethod yX3_seed ∈ tw_T := tw_2 _ (List.mem_of_getElem? (i := 221) rfl) rfl
theorem se_X3_seed : Cond.selects RX3 yX3_seed yX3_seed ∈ tw_T := tw_2 _ (List.mem_of_getElem? (i := 222) rfl) rfl
theorem co_X3_feed : Cond.code yX3_feed cX3_feed 4 (some .int) ∈ tw_T := tw_2 _ (List.mem_of_getElem? (i := 227) rfl) rfl
theorem im_X3_feed : Cond.instanceMethod yX3_feed ∈ tw_T := tw_2 _ (List.mem_of_getElem? (i := 225) rfl) rfl
theorem se_X3_feed : Cond.selects RX3 yX3_feed yX3_feed ∈ tw_T := tw_2 _ (List.mem_of_getElem? (i := 226) rfl) rfl
theorem co_X2_put : Cond.code yX2_put cX2_put 2 none ∈ tw_T := tw_2 _ (List.mem_of_getElem? (i := 231) rfl) rfl
theorem im_X2_put : Cond.instanceMethod yX2_put ∈ tw_T := tw_2 _ (List.mem_of_getElem? (i := 229) rfl) rfl
theorem se_X2_put : Cond.selects RX2 yX2_put yX2_put ∈ tw_T := tw_2 _ (List.mem_of_getElem? (i := 230) rfl) rfl
theorem co_X3_wipe : Cond.code yX3_wipe cX3_wipe 2 (some .int) ∈ tw_T := tw_2 _ (List.mem_of_getElem? (i := 235) rfl) rfl
theorem im_X3_wipe : Cond.instanceMethod yX3_wipe ∈ tw_T := tw_2 _ (List.mem_of_getElem? (i := 233) rfl) rfl
theorem se_X3_wipe : Cond.selects RX3 yX3_wipe yX3_wipe ∈ tw_T := tw_2 _ (List.mem_of_getElem? (i := 234) rfl) rfl
theorem co_X3_text : Cond.code yX3_text cX3_text 2 (some .int) ∈ tw_T := tw_2 _ (List.mem_of_getElem? (i := 239) rfl) rfl
theorem im_X3_text : Cond.instanceMethod yX3_text ∈ tw_T := tw_2 _ (List.mem_of_getElem? (i := 237) rfl) rfl
theorem se_X3_text : Cond.selects RX3 yX3_text yX3_text ∈ tw_T := tw_2 _ (List.mem_of_getElem? (i := 238) rfl) rfl
theorem co_X2_tellTo : Cond.code yX2_tellTo cX2_tellTo 3 (some .int) ∈ tw_T := tw_3 _ (List.mem_of_getElem? (i := 3) rfl) rfl
theorem im_X2_tellTo : Cond.instanceMethod yX2_tellTo ∈ tw_T := tw_3 _ (List.mem_of_getElem? (i := 1) rfl) rfl
theorem se_X2_tellTo : Cond.selects RX2 yX2_tellTo yX2_tellTo ∈ tw_T := tw_3 _ (List.mem_of_getElem? (i := 2) rfl) rfl
theorem co_X2_split : Cond.code yX2_split cX2_split 5 none ∈ tw_T := tw_3 _ (List.mem_of_getElem? (i := 7) rfl) rfl
theorem im_X2_split : Cond.instanceMethod yX2_split ∈ tw_T := tw_3 _ (List.mem_of_getElem? (i := 6) rfl) rfl
theorem se_X2_split : Cond.selects RX2 yX2_split yX2_split ∈ tw_T := List.mem_filter.mpr ⟨List.mem_append_left _ (List.mem_of_getElem? (i := 8) rfl), rfl⟩
theorem co_X2_sortOf : Cond.code yX2_sortOf cX2_sortOf 1 (some .int) ∈ tw_T := tw_3 _ (List.mem_of_getElem? (i := 10) rfl) rfl
theorem sm_X2_sortOf : Cond.static yX2_sortOf ∈ tw_T := tw_3 _ (List.mem_of_getElem? (i := 9) rfl) rfl
theorem co_X2_setToken : Cond.code yX2_setToken cX2_setToken 4 none ∈ tw_T := tw_3 _ (List.mem_of_getElem? (i := 14) rfl) rfl
theorem im_X2_setToken : Cond.instanceMethod yX2_setToken ∈ tw_T := tw_3 _ (List.mem_of_getElem? (i := 13) rfl) rfl
theorem se_X2_setToken : Cond.selects RX2 yX2_setToken yX2_setToken ∈ tw_T := List.mem_filter.mpr ⟨List.mem_append_left _ (List.mem_of_getElem? (i := 9) rfl), rfl⟩
theorem co_X2_takeItem : Cond.code yX2_takeItem cX2_takeItem 3 (some .boolean) ∈ tw_T := tw_3 _ (List.mem_of_getElem? (i := 18) rfl) rfl
theorem im_X2_takeItem : Cond.instanceMethod yX2_takeItem ∈ tw_T := tw_3 _ (List.mem_of_getElem? (i := 17) rfl) rfl
theorem se_X2_takeItem : Cond.selects RX2 yX2_takeItem yX2_takeItem ∈ tw_T := List.mem_filter.mpr ⟨List.mem_append_left _ (List.mem_of_getElem? (i := 10) rfl), rfl⟩
theorem co_X2_wordAhead : Cond.code yX2_wordAhead cX2_wordAhead 2 (some .int) ∈ tw_T := tw_3 _ (List.mem_of_getElem? (i := 22) rfl) rfl
theorem im_X2_wordAhead : Cond.instanceMethod yX2_wordAhead ∈ tw_T := tw_3 _ (List.mem_of_getElem? (i := 21) rfl) rfl
theorem se_X2_wordAhead : Cond.selects RX2 yX2_wordAhead yX2_wordAhead ∈ tw_T := List.mem_filter.mpr ⟨List.mem_append_left _ (List.mem_of_getElem? (i := 11) rfl), rfl⟩
theorem co_X2_isSpelt : Cond.code yX2_isSpelt cX2_isSpelt 4 (some .boolean) ∈ tw_T := tw_3 _ (List.mem_of_getElem? (i := 26) rfl) rfl
theorem im_X2_isSpelt : Cond.instanceMethod yX2_isSpelt ∈ tw_T := tw_3 _ (List.mem_of_getElem? (i := 25) rfl) rfl
theorem se_X2_isSpelt : Cond.selects RX2 yX2_isSpelt yX2_isSpelt ∈ tw_T := List.mem_filter.mpr ⟨List.mem_append_left _ (List.mem_of_getElem? (i := 12) rfl), rfl⟩
theorem co_X2_takeWalker : Cond.code yX2_takeWalker cX2_takeWalker 5 (some .boolean) ∈ tw_T := tw_3 _ (List.mem_of_getElem? (i := 30) rfl) rfl
theorem im_X2_takeWalker : Cond.instanceMethod yX2_takeWalker ∈ tw_T := tw_3 _ (List.mem_of_getElem? (i := 29) rfl) rfl
theorem se_X2_takeWalker : Cond.selects RX2 yX2_takeWalker yX2_takeWalker ∈ tw_T := List.mem_filter.mpr ⟨List.mem_append_left _ (List.mem_of_getElem? (i := 13) rfl), rfl⟩
theorem co_X2_takeWord : Cond.code yX2_takeWord cX2_takeWord 2 (some .boolean) ∈ tw_T := tw_3 _ (List.mem_of_getElem? (i := 35) rfl) rfl
theorem im_X2_takeWord : Cond.instanceMethod yX2_takeWord ∈ tw_T := tw_3 _ (List.mem_of_getElem? (i := 34) rfl) rfl
theorem se_X2_takeWord : Cond.selects RX2 yX2_takeWord yX2_takeWord ∈ tw_T := List.mem_filter.mpr ⟨List.mem_append_left _ (List.mem_of_getElem? (i := 14) rfl), rfl⟩
theorem co_X2_takeNumber : Cond.code yX2_takeNumber cX2_takeNumber 5 (some .int) ∈ tw_T := tw_3 _ (List.mem_of_getElem? (i := 39) rfl) rfl
theorem im_X2_takeNumber : Cond.instanceMethod yX2_takeNumber ∈ tw_T := tw_3 _ (List.mem_of_getElem? (i := 38) rfl) rfl
theorem se_X2_takeNumber : Cond.selects RX2 yX2_takeNumber yX2_takeNumber ∈ tw_T := List.mem_filter.mpr ⟨List.mem_append_left _ (List.mem_of_getElem? (i := 15) rfl), rfl⟩
theorem co_X2_takeGate : Cond.code yX2_takeGate cX2_takeGate 4 (some .boolean) ∈ tw_T := tw_3 _ (List.mem_of_getElem? (i := 44) rfl) rfl
theorem im_X2_takeGate : Cond.instanceMethod yX2_takeGate ∈ tw_T := tw_3 _ (List.mem_of_getElem? (i := 43) rfl) rfl
theorem se_X2_takeGate : Cond.selects RX2 yX2_takeGate yX2_takeGate ∈ tw_T := List.mem_filter.mpr ⟨List.mem_append_left _ (List.mem_of_getElem? (i := 16) rfl), rfl⟩
theorem co_X2_takeBeasts : Cond.code yX2_takeBeasts cX2_takeBeasts 4 (some .boolean) ∈ tw_T := tw_3 _ (List.mem_of_getElem? (i := 48) rfl) rfl
theorem im_X2_takeBeasts : Cond.instanceMethod yX2_takeBeasts ∈ tw_T := tw_3 _ (List.mem_of_getElem? (i := 47) rfl) rfl
theorem se_X2_takeBeasts : Cond.selects RX2 yX2_takeBeasts yX2_takeBeasts ∈ tw_T := List.mem_filter.mpr ⟨List.mem_append_left _ (List.mem_of_getElem? (i := 17) rfl), rfl⟩
theorem co_X2_takeWind : Cond.code yX2_takeWind cX2_takeWind 3 (some .boolean) ∈ tw_T := tw_3 _ (List.mem_of_getElem? (i := 52) rfl) rfl
theorem im_X2_takeWind : Cond.instanceMethod yX2_takeWind ∈ tw_T := tw_3 _ (List.mem_of_getElem? (i := 51) rfl) rfl
theorem se_X2_takeWind : Cond.selects RX2 yX2_takeWind yX2_takeWind ∈ tw_T := List.mem_filter.mpr ⟨List.mem_append_left _ (List.mem_of_getElem? (i := 18) rfl), rfl⟩
theorem co_X3_hold : Cond.code yX3_hold cX3_hold 3 (some .int) ∈ tw_T := tw_3 _ (List.mem_of_getElem? (i := 56) rfl) rfl
theorem im_X3_hold : Cond.instanceMethod yX3_hold ∈ tw_T := tw_3 _ (List.mem_of_getElem? (i := 54) rfl) rfl
theorem se_X3_hold : Cond.selects RX3 yX3_hold yX3_hold ∈ tw_T := tw_3 _ (List.mem_of_getElem? (i := 55) rfl) rfl
theorem co_X3_isSpot : Cond.code yX3_isSpot cX3_isSpot 1 (some .boolean) ∈ tw_T := tw_3 _ (List.mem_of_getElem? (i := 59) rfl) rfl
theorem sm_X3_isSpot : Cond.static yX3_isSpot ∈ tw_T := tw_3 _ (List.mem_of_getElem? (i := 58) rfl) rfl
theorem co_X3_as : Cond.code yX3_as cX3_as 4 (some .int) ∈ tw_T := tw_3 _ (List.mem_of_getElem? (i := 63) rfl) rfl
theorem im_X3_as : Cond.instanceMethod yX3_as ∈ tw_T := tw_3 _ (List.mem_of_getElem? (i := 61) rfl) rfl
theorem se_X3_as : Cond.selects RX3 yX3_as yX3_as ∈ tw_T := tw_3 _ (List.mem_of_getElem? (i := 62) rfl) rfl
theorem co_X3_isUnder : Cond.code yX3_isUnder cX3_isUnder 4 (some .boolean) ∈ tw_T := tw_3 _ (List.mem_of_getElem? (i := 66) rfl) rfl
theorem sm_X3_isUnder : Cond.static yX3_isUnder ∈ tw_T := tw_3 _ (List.mem_of_getElem? (i := 65) rfl) rfl
theorem co_X3_sheet : Cond.code yX3_sheet cX3_sheet 4 (some .int) ∈ tw_T := tw_3 _ (List.mem_of_getElem? (i := 72) rfl) rfl
theorem im_X3_sheet : Cond.instanceMethod yX3_sheet ∈ tw_T := tw_3 _ (List.mem_of_getElem? (i := 70) rfl) rfl
theorem se_X3_sheet : Cond.selects RX3 yX3_sheet yX3_sheet ∈ tw_T := tw_3 _ (List.mem_of_getElem? (i := 71) rfl) rfl
theorem co_X1_clear : Cond.code yX1_clear cX1_clear 4 none ∈ tw_T := tw_3 _ (List.mem_of_getElem? (i := 76) rfl) rfl
theorem im_X1_clear : Cond.instanceMethod yX1_clear ∈ tw_T := tw_3 _ (List.mem_of_getElem? (i := 74) rfl) rfl
theorem se_X1_clear : Cond.selects RX1 yX1_clear yX1_clear ∈ tw_T := tw_3 _ (List.mem_of_getElem? (i := 75) rfl) rfl
theorem co_X3_write : Cond.code yX3_write cX3_write 5 (some .int) ∈ tw_T := tw_3 _ (List.mem_of_getElem? (i := 80) rfl) rfl
theorem im_X3_write : Cond.instanceMethod yX3_write ∈ tw_T := tw_3 _ (List.mem_of_getElem? (i := 78) rfl) rfl
theorem se_X3_write : Cond.selects RX3 yX3_write yX3_write ∈ tw_T := tw_3 _ (List.mem_of_getElem? (i := 79) rfl) rfl
theorem co_X1_put : Cond.code yX1_put cX1_put 3 none ∈ tw_T := tw_3 _ (List.mem_of_getElem? (i := 84) rfl) rfl
theorem im_X1_put : Cond.instanceMethod yX1_put ∈ tw_T := tw_3 _ (List.mem_of_getElem? (i := 82) rfl) rfl
theorem se_X1_put : Cond.selects RX1 yX1_put yX1_put ∈ tw_T := tw_3 _ (List.mem_of_getElem? (i := 83) rfl) rfl
theorem co_X3_copy : Cond.code yX3_copy cX3_copy 6 (some .int) ∈ tw_T := tw_3 _ (List.mem_of_getElem? (i := 88) rfl) rfl
theorem im_X3_copy : Cond.instanceMethod yX3_copy ∈ tw_T := tw_3 _ (List.mem_of_getElem? (i := 86) rfl) rfl
theorem se_X3_copy : Cond.selects RX3 yX3_copy yX3_copy ∈ tw_T := tw_3 _ (List.mem_of_getElem? (i := 87) rfl) rfl
theorem co_X1_hasRow : Cond.code yX1_hasRow cX1_hasRow 3 (some .boolean) ∈ tw_T := tw_3 _ (List.mem_of_getElem? (i := 92) rfl) rfl
theorem im_X1_hasRow : Cond.instanceMethod yX1_hasRow ∈ tw_T := tw_3 _ (List.mem_of_getElem? (i := 90) rfl) rfl
theorem se_X1_hasRow : Cond.selects RX1 yX1_hasRow yX1_hasRow ∈ tw_T := tw_3 _ (List.mem_of_getElem? (i := 91) rfl) rfl
theorem co_X3_load : Cond.code yX3_load cX3_load 6 (some .int) ∈ tw_T := tw_3 _ (List.mem_of_getElem? (i := 97) rfl) rfl
theorem im_X3_load : Cond.instanceMethod yX3_load ∈ tw_T := tw_3 _ (List.mem_of_getElem? (i := 95) rfl) rfl
theorem se_X3_load : Cond.selects RX3 yX3_load yX3_load ∈ tw_T := tw_3 _ (List.mem_of_getElem? (i := 96) rfl) rfl
theorem co_X3_judge : Cond.code yX3_judge cX3_judge 4 (some .int) ∈ tw_T := tw_3 _ (List.mem_of_getElem? (i := 102) rfl) rfl
theorem im_X3_judge : Cond.instanceMethod yX3_judge ∈ tw_T := tw_3 _ (List.mem_of_getElem? (i := 100) rfl) rfl
theorem se_X3_judge : Cond.selects RX3 yX3_judge yX3_judge ∈ tw_T := tw_3 _ (List.mem_of_getElem? (i := 101) rfl) rfl
theorem co_X3_image : Cond.code yX3_image cX3_image 1 (some .int) ∈ tw_T := tw_3 _ (List.mem_of_getElem? (i := 106) rfl) rfl
theorem im_X3_image : Cond.instanceMethod yX3_image ∈ tw_T := tw_3 _ (List.mem_of_getElem? (i := 104) rfl) rfl
theorem se_X3_image : Cond.selects RX3 yX3_image yX3_image ∈ tw_T := tw_3 _ (List.mem_of_getElem? (i := 105) rfl) rfl
theorem co_X3_undo : Cond.code yX3_undo cX3_undo 1 (some .int) ∈ tw_T := tw_3 _ (List.mem_of_getElem? (i := 110) rfl) rfl
theorem im_X3_undo : Cond.instanceMethod yX3_undo ∈ tw_T := tw_3 _ (List.mem_of_getElem? (i := 108) rfl) rfl
theorem se_X3_undo : Cond.selects RX3 yX3_undo yX3_undo ∈ tw_T := tw_3 _ (List.mem_of_getElem? (i := 109) rfl) rfl
theorem co_X3_tear : Cond.code yX3_tear cX3_tear 2 (some .int) ∈ tw_T := tw_3 _ (List.mem_of_getElem? (i := 114) rfl) rfl
theorem im_X3_tear : Cond.instanceMethod yX3_tear ∈ tw_T := tw_3 _ (List.mem_of_getElem? (i := 112) rfl) rfl
theorem se_X3_tear : Cond.selects RX3 yX3_tear yX3_tear ∈ tw_T := tw_3 _ (List.mem_of_getElem? (i := 113) rfl) rfl
theorem co_X3_count : Cond.code yX3_count cX3_count 2 (some .int) ∈ tw_T := tw_3 _ (List.mem_of_getElem? (i := 118) rfl) rfl
theorem im_X3_count : Cond.instanceMethod yX3_count ∈ tw_T := tw_3 _ (List.mem_of_getElem? (i := 116) rfl) rfl
theorem se_X3_count : Cond.selects RX3 yX3_count yX3_count ∈ tw_T := tw_3 _ (List.mem_of_getElem? (i := 117) rfl) rfl
theorem co_X0_spotsInUse : Cond.code yX0_spotsInUse cX0_spotsInUse 3 (some .int) ∈ tw_T := tw_3 _ (List.mem_of_getElem? (i := 122) rfl) rfl
theorem im_X0_spotsInUse : Cond.instanceMethod yX0_spotsInUse ∈ tw_T := tw_3 _ (List.mem_of_getElem? (i := 120) rfl) rfl
theorem se_X0_spotsInUse : Cond.selects RX0 yX0_spotsInUse yX0_spotsInUse ∈ tw_T := tw_3 _ (List.mem_of_getElem? (i := 121) rfl) rfl
theorem co_X3_status : Cond.code yX3_status cX3_status 2 (some .int) ∈ tw_T := tw_3 _ (List.mem_of_getElem? (i := 126) rfl) rfl
theorem im_X3_status : Cond.instanceMethod yX3_status ∈ tw_T := tw_3 _ (List.mem_of_getElem? (i := 124) rfl) rfl
theorem se_X3_status : Cond.selects RX3 yX3_status yX3_status ∈ tw_T := tw_3 _ (List.mem_of_getElem? (i := 125) rfl) rfl
theorem co_X3_allFound : Cond.code yX3_allFound cX3_allFound 3 (some .int) ∈ tw_T := tw_3 _ (List.mem_of_getElem? (i := 130) rfl) rfl
theorem im_X3_allFound : Cond.instanceMethod yX3_allFound ∈ tw_T := tw_3 _ (List.mem_of_getElem? (i := 129) rfl) rfl
theorem se_X3_allFound : Cond.selects RX3 yX3_allFound yX3_allFound ∈ tw_T := List.mem_filter.mpr ⟨List.mem_append_left _ (List.mem_of_getElem? (i := 19) rfl), rfl⟩
theorem co_X4_init : Cond.code yX4_init cX4_init 2 none ∈ tw_T := tw_3 _ (List.mem_of_getElem? (i := 135) rfl) rfl
theorem im_X4_init : Cond.instanceMethod yX4_init ∈ tw_T := tw_3 _ (List.mem_of_getElem? (i := 134) rfl) rfl
theorem co_X4_beasts : Cond.code yX4_beasts cX4_beasts 3 (some .int) ∈ tw_T := tw_3 _ (List.mem_of_getElem? (i := 192) rfl) rfl
theorem im_X4_beasts : Cond.instanceMethod yX4_beasts ∈ tw_T := tw_3 _ (List.mem_of_getElem? (i := 190) rfl) rfl
theorem se_X4_beasts : Cond.selects RX4 yX4_beasts yX4_beasts ∈ tw_T := tw_3 _ (List.mem_of_getElem? (i := 191) rfl) rfl
theorem co_X4_isField : Cond.code yX4_isField cX4_isField 1 (some .boolean) ∈ tw_T := tw_3 _ (List.mem_of_getElem? (i := 195) rfl) rfl
theorem sm_X4_isField : Cond.static yX4_isField ∈ tw_T := tw_3 _ (List.mem_of_getElem? (i := 194) rfl) rfl
theorem co_X4_isIn : Cond.code yX4_isIn cX4_isIn 6 (some .boolean) ∈ tw_T := tw_3 _ (List.mem_of_getElem? (i := 199) rfl) rfl
theorem sm_X4_isIn : Cond.static yX4_isIn ∈ tw_T := tw_3 _ (List.mem_of_getElem? (i := 198) rfl) rfl
theorem co_X4_becomes : Cond.code yX4_becomes cX4_becomes 4 (some .int) ∈ tw_T := tw_3 _ (List.mem_of_getElem? (i := 203) rfl) rfl
theorem im_X4_becomes : Cond.instanceMethod yX4_becomes ∈ tw_T := tw_3 _ (List.mem_of_getElem? (i := 202) rfl) rfl
theorem se_X4_becomes : Cond.selects RX4 yX4_becomes yX4_becomes ∈ tw_T := List.mem_filter.mpr ⟨List.mem_append_left _ (List.mem_of_getElem? (i := 20) rfl), rfl⟩
theorem co_X4_finds : Cond.code yX4_finds cX4_finds 2 (some .int) ∈ tw_T := tw_3 _ (List.mem_of_getElem? (i := 208) rfl) rfl
theorem im_X4_finds : Cond.instanceMethod yX4_finds ∈ tw_T := tw_3 _ (List.mem_of_getElem? (i := 207) rfl) rfl
theorem se_X4_finds : Cond.selects RX4 yX4_finds yX4_finds ∈ tw_T := List.mem_filter.mpr ⟨List.mem_append_left _ (List.mem_of_getElem? (i := 21) rfl), rfl⟩
theorem co_X4_field : Cond.code yX4_field cX4_field 3 (some .int) ∈ tw_T := tw_3 _ (List.mem_of_getElem? (i := 212) rfl) rfl
theorem im_X4_field : Cond.instanceMethod yX4_field ∈ tw_T := tw_3 _ (List.mem_of_getElem? (i := 210) rfl) rfl
theorem se_X4_field : Cond.selects RX4 yX4_field yX4_field ∈ tw_T := tw_3 _ (List.mem_of_getElem? (i := 211) rfl) rfl
theorem co_X4_there : Cond.code yX4_there cX4_there 4 (some .int) ∈ tw_T := tw_3 _ (List.mem_of_getElem? (i := 216) rfl) rfl
theorem im_X4_there : Cond.instanceMethod yX4_there ∈ tw_T := tw_3 _ (List.mem_of_getElem? (i := 215) rfl) rfl
theorem se_X4_there : Cond.selects RX4 yX4_there yX4_there ∈ tw_T := List.mem_filter.mpr ⟨List.mem_append_left _ (List.mem_of_getElem? (i := 22) rfl), rfl⟩
theorem co_X4_its : Cond.code yX4_its cX4_its 3 (some .int) ∈ tw_T := tw_3 _ (List.mem_of_getElem? (i := 220) rfl) rfl
theorem im_X4_its : Cond.instanceMethod yX4_its ∈ tw_T := tw_3 _ (List.mem_of_getElem? (i := 219) rfl) rfl
theorem se_X4_its : Cond.selects RX4 yX4_its yX4_its ∈ tw_T := List.mem_filter.mpr ⟨List.mem_append_left _ (List.mem_of_getElem? (i := 23) rfl), rfl⟩
theorem co_X4_gate : Cond.code yX4_gate cX4_gate 3 (some .int) ∈ tw_T := tw_3 _ (List.mem_of_getElem? (i := 224) rfl) rfl
theorem im_X4_gate : Cond.instanceMethod yX4_gate ∈ tw_T := tw_3 _ (List.mem_of_getElem? (i := 222) rfl) rfl
theorem se_X4_gate : Cond.selects RX4 yX4_gate yX4_gate ∈ tw_T := tw_3 _ (List.mem_of_getElem? (i := 223) rfl) rfl
theorem co_X4_isGate : Cond.code yX4_isGate cX4_isGate 1 (some .boolean) ∈ tw_T := tw_3 _ (List.mem_of_getElem? (i := 227) rfl) rfl
theorem sm_X4_isGate : Cond.static yX4_isGate ∈ tw_T := tw_3 _ (List.mem_of_getElem? (i := 226) rfl) rfl
theorem co_X4_isStand : Cond.code yX4_isStand cX4_isStand 1 (some .boolean) ∈ tw_T := tw_3 _ (List.mem_of_getElem? (i := 230) rfl) rfl
theorem sm_X4_isStand : Cond.static yX4_isStand ∈ tw_T := tw_3 _ (List.mem_of_getElem? (i := 229) rfl) rfl
theorem co_X4_stands : Cond.code yX4_stands cX4_stands 2 (some .int) ∈ tw_T := tw_3 _ (List.mem_of_getElem? (i := 235) rfl) rfl
theorem im_X4_stands : Cond.instanceMethod yX4_stands ∈ tw_T := tw_3 _ (List.mem_of_getElem? (i := 233) rfl) rfl
theorem se_X4_stands : Cond.selects RX4 yX4_stands yX4_stands ∈ tw_T := tw_3 _ (List.mem_of_getElem? (i := 234) rfl) rfl
theorem co_X4_wind : Cond.code yX4_wind cX4_wind 2 (some .int) ∈ tw_T := tw_3 _ (List.mem_of_getElem? (i := 239) rfl) rfl
theorem im_X4_wind : Cond.instanceMethod yX4_wind ∈ tw_T := tw_3 _ (List.mem_of_getElem? (i := 237) rfl) rfl
theorem se_X4_wind : Cond.selects RX4 yX4_wind yX4_wind ∈ tw_T := tw_3 _ (List.mem_of_getElem? (i := 238) rfl) rfl
theorem co_X4_walker : Cond.code yX4_walker cX4_walker 3 (some .int) ∈ tw_T := tw_4 _ (List.mem_of_getElem? (i := 4) rfl) rfl
theorem im_X4_walker : Cond.instanceMethod yX4_walker ∈ tw_T := tw_4 _ (List.mem_of_getElem? (i := 2) rfl) rfl
theorem se_X4_walker : Cond.selects RX4 yX4_walker yX4_walker ∈ tw_T := tw_4 _ (List.mem_of_getElem? (i := 3) rfl) rfl
theorem co_X4_comes : Cond.code yX4_comes cX4_comes 3 none ∈ tw_T := tw_4 _ (List.mem_of_getElem? (i := 10) rfl) rfl
theorem im_X4_comes : Cond.instanceMethod yX4_comes ∈ tw_T := tw_4 _ (List.mem_of_getElem? (i := 9) rfl) rfl
theorem se_X4_comes : Cond.selects RX4 yX4_comes yX4_comes ∈ tw_T := List.mem_filter.mpr ⟨List.mem_append_left _ (List.mem_of_getElem? (i := 24) rfl), rfl⟩
theorem co_X4_at : Cond.code yX4_at cX4_at 2 (some .int) ∈ tw_T := tw_4 _ (List.mem_of_getElem? (i := 13) rfl) rfl
theorem sm_X4_at : Cond.static yX4_at ∈ tw_T := tw_4 _ (List.mem_of_getElem? (i := 12) rfl) rfl
theorem co_X4_of : Cond.code yX4_of cX4_of 3 (some .int) ∈ tw_T := tw_4 _ (List.mem_of_getElem? (i := 17) rfl) rfl
theorem im_X4_of : Cond.instanceMethod yX4_of ∈ tw_T := tw_4 _ (List.mem_of_getElem? (i := 15) rfl) rfl
theorem se_X4_of : Cond.selects RX4 yX4_of yX4_of ∈ tw_T := tw_4 _ (List.mem_of_getElem? (i := 16) rfl) rfl
theorem co_X4_isWalker : Cond.code yX4_isWalker cX4_isWalker 2 (some .boolean) ∈ tw_T := tw_4 _ (List.mem_of_getElem? (i := 21) rfl) rfl
theorem im_X4_isWalker : Cond.instanceMethod yX4_isWalker ∈ tw_T := tw_4 _ (List.mem_of_getElem? (i := 20) rfl) rfl
theorem se_X4_isWalker : Cond.selects RX4 yX4_isWalker yX4_isWalker ∈ tw_T := List.mem_filter.mpr ⟨List.mem_append_left _ (List.mem_of_getElem? (i := 25) rfl), rfl⟩
theorem co_X4_goesFar : Cond.code yX4_goesFar cX4_goesFar 3 (some .int) ∈ tw_T := tw_4 _ (List.mem_of_getElem? (i := 26) rfl) rfl
theorem im_X4_goesFar : Cond.instanceMethod yX4_goesFar ∈ tw_T := tw_4 _ (List.mem_of_getElem? (i := 25) rfl) rfl
theorem se_X4_goesFar : Cond.selects RX4 yX4_goesFar yX4_goesFar ∈ tw_T := List.mem_filter.mpr ⟨List.mem_append_left _ (List.mem_of_getElem? (i := 26) rfl), rfl⟩
theorem co_X4_change : Cond.code yX4_change cX4_change 5 (some .int) ∈ tw_T := tw_4 _ (List.mem_of_getElem? (i := 30) rfl) rfl
theorem im_X4_change : Cond.instanceMethod yX4_change ∈ tw_T := tw_4 _ (List.mem_of_getElem? (i := 28) rfl) rfl
theorem se_X4_change : Cond.selects RX4 yX4_change yX4_change ∈ tw_T := tw_4 _ (List.mem_of_getElem? (i := 29) rfl) rfl
theorem co_X4_greatestOf : Cond.code yX4_greatestOf cX4_greatestOf 1 (some .int) ∈ tw_T := tw_4 _ (List.mem_of_getElem? (i := 34) rfl) rfl
theorem sm_X4_greatestOf : Cond.static yX4_greatestOf ∈ tw_T := tw_4 _ (List.mem_of_getElem? (i := 33) rfl) rfl
theorem co_X4_leaves : Cond.code yX4_leaves cX4_leaves 4 (some .int) ∈ tw_T := tw_4 _ (List.mem_of_getElem? (i := 38) rfl) rfl
theorem im_X4_leaves : Cond.instanceMethod yX4_leaves ∈ tw_T := tw_4 _ (List.mem_of_getElem? (i := 36) rfl) rfl
theorem se_X4_leaves : Cond.selects RX4 yX4_leaves yX4_leaves ∈ tw_T := tw_4 _ (List.mem_of_getElem? (i := 37) rfl) rfl
theorem co_X4_leavesIt : Cond.code yX4_leavesIt cX4_leavesIt 6 (some .int) ∈ tw_T := tw_4 _ (List.mem_of_getElem? (i := 42) rfl) rfl
theorem im_X4_leavesIt : Cond.instanceMethod yX4_leavesIt ∈ tw_T := tw_4 _ (List.mem_of_getElem? (i := 41) rfl) rfl
theorem se_X4_leavesIt : Cond.selects RX4 yX4_leavesIt yX4_leavesIt ∈ tw_T := List.mem_filter.mpr ⟨List.mem_append_left _ (List.mem_of_getElem? (i := 27) rfl), rfl⟩
theorem co_X4_feels : Cond.code yX4_feels cX4_feels 6 (some .int) ∈ tw_T := tw_4 _ (List.mem_of_getElem? (i := 46) rfl) rfl
theorem im_X4_feels : Cond.instanceMethod yX4_feels ∈ tw_T := tw_4 _ (List.mem_of_getElem? (i := 45) rfl) rfl
theorem se_X4_feels : Cond.selects RX4 yX4_feels yX4_feels ∈ tw_T := List.mem_filter.mpr ⟨List.mem_append_left _ (List.mem_of_getElem? (i := 28) rfl), rfl⟩
theorem co_X4_least : Cond.code yX4_least cX4_least 2 (some .int) ∈ tw_T := tw_4 _ (List.mem_of_getElem? (i := 49) rfl) rfl
theorem sm_X4_least : Cond.static yX4_least ∈ tw_T := tw_4 _ (List.mem_of_getElem? (i := 48) rfl) rfl
theorem co_X4_go : Cond.code yX4_go cX4_go 2 (some .int) ∈ tw_T := tw_4 _ (List.mem_of_getElem? (i := 53) rfl) rfl
theorem im_X4_go : Cond.instanceMethod yX4_go ∈ tw_T := tw_4 _ (List.mem_of_getElem? (i := 51) rfl) rfl
theorem se_X4_go : Cond.selects RX4 yX4_go yX4_go ∈ tw_T := tw_4 _ (List.mem_of_getElem? (i := 52) rfl) rfl
theorem co_X4_goes : Cond.code yX4_goes cX4_goes 3 none ∈ tw_T := tw_4 _ (List.mem_of_getElem? (i := 60) rfl) rfl
theorem im_X4_goes : Cond.instanceMethod yX4_goes ∈ tw_T := tw_4 _ (List.mem_of_getElem? (i := 59) rfl) rfl
theorem se_X4_goes : Cond.selects RX4 yX4_goes yX4_goes ∈ tw_T := List.mem_filter.mpr ⟨List.mem_append_left _ (List.mem_of_getElem? (i := 29) rfl), rfl⟩
theorem co_X4_hourBut : Cond.code yX4_hourBut cX4_hourBut 5 none ∈ tw_T := tw_4 _ (List.mem_of_getElem? (i := 64) rfl) rfl
theorem im_X4_hourBut : Cond.instanceMethod yX4_hourBut ∈ tw_T := tw_4 _ (List.mem_of_getElem? (i := 63) rfl) rfl
theorem se_X4_hourBut : Cond.selects RX4 yX4_hourBut yX4_hourBut ∈ tw_T := List.mem_filter.mpr ⟨List.mem_append_left _ (List.mem_of_getElem? (i := 30) rfl), rfl⟩
theorem co_X4_walks : Cond.code yX4_walks cX4_walks 7 none ∈ tw_T := tw_4 _ (List.mem_of_getElem? (i := 68) rfl) rfl
theorem im_X4_walks : Cond.instanceMethod yX4_walks ∈ tw_T := tw_4 _ (List.mem_of_getElem? (i := 67) rfl) rfl
theorem se_X4_walks : Cond.selects RX4 yX4_walks yX4_walks ∈ tw_T := List.mem_filter.mpr ⟨List.mem_append_left _ (List.mem_of_getElem? (i := 31) rfl), rfl⟩
theorem co_X4_wander : Cond.code yX4_wander cX4_wander 4 none ∈ tw_T := tw_4 _ (List.mem_of_getElem? (i := 72) rfl) rfl
theorem im_X4_wander : Cond.instanceMethod yX4_wander ∈ tw_T := tw_4 _ (List.mem_of_getElem? (i := 71) rfl) rfl
theorem se_X4_wander : Cond.selects RX4 yX4_wander yX4_wander ∈ tw_T := List.mem_filter.mpr ⟨List.mem_append_left _ (List.mem_of_getElem? (i := 32) rfl), rfl⟩
theorem co_X4_allStand : Cond.code yX4_allStand cX4_allStand 3 (some .int) ∈ tw_T := tw_4 _ (List.mem_of_getElem? (i := 76) rfl) rfl
theorem im_X4_allStand : Cond.instanceMethod yX4_allStand ∈ tw_T := tw_4 _ (List.mem_of_getElem? (i := 75) rfl) rfl
theorem se_X4_allStand : Cond.selects RX4 yX4_allStand yX4_allStand ∈ tw_T := List.mem_filter.mpr ⟨List.mem_append_left _ (List.mem_of_getElem? (i := 33) rfl), rfl⟩
theorem co_X4_now : Cond.code yX4_now cX4_now 2 (some .int) ∈ tw_T := tw_4 _ (List.mem_of_getElem? (i := 80) rfl) rfl
theorem im_X4_now : Cond.instanceMethod yX4_now ∈ tw_T := tw_4 _ (List.mem_of_getElem? (i := 78) rfl) rfl
theorem se_X4_now : Cond.selects RX4 yX4_now yX4_now ∈ tw_T := tw_4 _ (List.mem_of_getElem? (i := 79) rfl) rfl
theorem co_X4_beastsAll : Cond.code yX4_beastsAll cX4_beastsAll 3 (some .int) ∈ tw_T := tw_4 _ (List.mem_of_getElem? (i := 84) rfl) rfl
theorem im_X4_beastsAll : Cond.instanceMethod yX4_beastsAll ∈ tw_T := tw_4 _ (List.mem_of_getElem? (i := 83) rfl) rfl
theorem se_X4_beastsAll : Cond.selects RX4 yX4_beastsAll yX4_beastsAll ∈ tw_T := List.mem_filter.mpr ⟨List.mem_append_left _ (List.mem_of_getElem? (i := 34) rfl), rfl⟩
theorem co_X4_notShut : Cond.code yX4_notShut cX4_notShut 3 (some .int) ∈ tw_T := tw_4 _ (List.mem_of_getElem? (i := 88) rfl) rfl
theorem im_X4_notShut : Cond.instanceMethod yX4_notShut ∈ tw_T := tw_4 _ (List.mem_of_getElem? (i := 87) rfl) rfl
theorem se_X4_notShut : Cond.selects RX4 yX4_notShut yX4_notShut ∈ tw_T := List.mem_filter.mpr ⟨List.mem_append_left _ (List.mem_of_getElem? (i := 35) rfl), rfl⟩
theorem co_X4_passedAll : Cond.code yX4_passedAll cX4_passedAll 3 (some .int) ∈ tw_T := tw_4 _ (List.mem_of_getElem? (i := 92) rfl) rfl
theorem im_X4_passedAll : Cond.instanceMethod yX4_passedAll ∈ tw_T := tw_4 _ (List.mem_of_getElem? (i := 91) rfl) rfl
theorem se_X4_passedAll : Cond.selects RX4 yX4_passedAll yX4_passedAll ∈ tw_T := List.mem_filter.mpr ⟨List.mem_append_left _ (List.mem_of_getElem? (i := 36) rfl), rfl⟩
theorem co_X4_fullest : Cond.code yX4_fullest cX4_fullest 3 (some .int) ∈ tw_T := tw_4 _ (List.mem_of_getElem? (i := 96) rfl) rfl
theorem im_X4_fullest : Cond.instanceMethod yX4_fullest ∈ tw_T := tw_4 _ (List.mem_of_getElem? (i := 95) rfl) rfl
theorem se_X4_fullest : Cond.selects RX4 yX4_fullest yX4_fullest ∈ tw_T := List.mem_filter.mpr ⟨List.mem_append_left _ (List.mem_of_getElem? (i := 37) rfl), rfl⟩
theorem co_X4_ahead : Cond.code yX4_ahead cX4_ahead 3 (some .int) ∈ tw_T := tw_4 _ (List.mem_of_getElem? (i := 100) rfl) rfl
theorem im_X4_ahead : Cond.instanceMethod yX4_ahead ∈ tw_T := tw_4 _ (List.mem_of_getElem? (i := 98) rfl) rfl
theorem se_X4_ahead : Cond.selects RX4 yX4_ahead yX4_ahead ∈ tw_T := tw_4 _ (List.mem_of_getElem? (i := 99) rfl) rfl
theorem co_X4_thenAt : Cond.code yX4_thenAt cX4_thenAt 4 (some .int) ∈ tw_T := tw_4 _ (List.mem_of_getElem? (i := 105) rfl) rfl
theorem im_X4_thenAt : Cond.instanceMethod yX4_thenAt ∈ tw_T := tw_4 _ (List.mem_of_getElem? (i := 104) rfl) rfl
theorem se_X4_thenAt : Cond.selects RX4 yX4_thenAt yX4_thenAt ∈ tw_T := List.mem_filter.mpr ⟨List.mem_append_left _ (List.mem_of_getElem? (i := 38) rfl), rfl⟩
theorem co_X4_copyRow : Cond.code yX4_copyRow cX4_copyRow 3 none ∈ tw_T := tw_4 _ (List.mem_of_getElem? (i := 108) rfl) rfl
theorem sm_X4_copyRow : Cond.static yX4_copyRow ∈ tw_T := tw_4 _ (List.mem_of_getElem? (i := 107) rfl) rfl
theorem co_X4_stand : Cond.code yX4_stand cX4_stand 3 (some .int) ∈ tw_T := tw_4 _ (List.mem_of_getElem? (i := 112) rfl) rfl
theorem im_X4_stand : Cond.instanceMethod yX4_stand ∈ tw_T := tw_4 _ (List.mem_of_getElem? (i := 110) rfl) rfl
theorem se_X4_stand : Cond.selects RX4 yX4_stand yX4_stand ∈ tw_T := tw_4 _ (List.mem_of_getElem? (i := 111) rfl) rfl
theorem co_X4_where : Cond.code yX4_where cX4_where 5 (some .int) ∈ tw_T := tw_4 _ (List.mem_of_getElem? (i := 116) rfl) rfl
theorem im_X4_where : Cond.instanceMethod yX4_where ∈ tw_T := tw_4 _ (List.mem_of_getElem? (i := 114) rfl) rfl
theorem se_X4_where : Cond.selects RX4 yX4_where yX4_where ∈ tw_T := tw_4 _ (List.mem_of_getElem? (i := 115) rfl) rfl
theorem co_X4_corn : Cond.code yX4_corn cX4_corn 4 (some .int) ∈ tw_T := tw_4 _ (List.mem_of_getElem? (i := 120) rfl) rfl
theorem im_X4_corn : Cond.instanceMethod yX4_corn ∈ tw_T := tw_4 _ (List.mem_of_getElem? (i := 118) rfl) rfl
theorem se_X4_corn : Cond.selects RX4 yX4_corn yX4_corn ∈ tw_T := tw_4 _ (List.mem_of_getElem? (i := 119) rfl) rfl
theorem co_X4_when : Cond.code yX4_when cX4_when 4 (some .int) ∈ tw_T := tw_4 _ (List.mem_of_getElem? (i := 125) rfl) rfl
theorem im_X4_when : Cond.instanceMethod yX4_when ∈ tw_T := tw_4 _ (List.mem_of_getElem? (i := 123) rfl) rfl
theorem se_X4_when : Cond.selects RX4 yX4_when yX4_when ∈ tw_T := tw_4 _ (List.mem_of_getElem? (i := 124) rfl) rfl
theorem co_X4_meet : Cond.code yX4_meet cX4_meet 4 (some .int) ∈ tw_T := tw_4 _ (List.mem_of_getElem? (i := 129) rfl) rfl
theorem im_X4_meet : Cond.instanceMethod yX4_meet ∈ tw_T := tw_4 _ (List.mem_of_getElem? (i := 127) rfl) rfl
theorem se_X4_meet : Cond.selects RX4 yX4_meet yX4_meet ∈ tw_T := tw_4 _ (List.mem_of_getElem? (i := 128) rfl) rfl
theorem co_X4_start : Cond.code yX4_start cX4_start 5 (some .int) ∈ tw_T := tw_4 _ (List.mem_of_getElem? (i := 133) rfl) rfl
theorem im_X4_start : Cond.instanceMethod yX4_start ∈ tw_T := tw_4 _ (List.mem_of_getElem? (i := 131) rfl) rfl
theorem se_X4_start : Cond.selects RX4 yX4_start yX4_start ∈ tw_T := tw_4 _ (List.mem_of_getElem? (i := 132) rfl) rfl
theorem co_X4_isAsked : Cond.code yX4_isAsked cX4_isAsked 5 (some .boolean) ∈ tw_T := tw_4 _ (List.mem_of_getElem? (i := 137) rfl) rfl
theorem im_X4_isAsked : Cond.instanceMethod yX4_isAsked ∈ tw_T := tw_4 _ (List.mem_of_getElem? (i := 136) rfl) rfl
theorem se_X4_isAsked : Cond.selects RX4 yX4_isAsked yX4_isAsked ∈ tw_T := List.mem_filter.mpr ⟨List.mem_append_left _ (List.mem_of_getElem? (i := 39) rfl), rfl⟩
theorem co_X4_withWhich : Cond.code yX4_withWhich cX4_withWhich 9 (some .int) ∈ tw_T := tw_4 _ (List.mem_of_getElem? (i := 142) rfl) rfl
theorem im_X4_withWhich : Cond.instanceMethod yX4_withWhich ∈ tw_T := tw_4 _ (List.mem_of_getElem? (i := 141) rfl) rfl
theorem se_X4_withWhich : Cond.selects RX4 yX4_withWhich yX4_withWhich ∈ tw_T := List.mem_filter.mpr ⟨List.mem_append_left _ (List.mem_of_getElem? (i := 40) rfl), rfl⟩
theorem co_X4_lowest : Cond.code yX4_lowest cX4_lowest 2 (some .int) ∈ tw_T := tw_4 _ (List.mem_of_getElem? (i := 145) rfl) rfl
theorem sm_X4_lowest : Cond.static yX4_lowest ∈ tw_T := tw_4 _ (List.mem_of_getElem? (i := 144) rfl) rfl
theorem co_X4_orNone : Cond.code yX4_orNone cX4_orNone 2 (some .int) ∈ tw_T := tw_4 _ (List.mem_of_getElem? (i := 149) rfl) rfl
theorem im_X4_orNone : Cond.instanceMethod yX4_orNone ∈ tw_T := tw_4 _ (List.mem_of_getElem? (i := 148) rfl) rfl
theorem se_X4_orNone : Cond.selects RX4 yX4_orNone yX4_orNone ∈ tw_T := List.mem_filter.mpr ⟨List.mem_append_left _ (List.mem_of_getElem? (i := 41) rfl), rfl⟩
theorem co_X4_kindsFor : Cond.code yX4_kindsFor cX4_kindsFor 5 (some .int) ∈ tw_T := tw_4 _ (List.mem_of_getElem? (i := 153) rfl) rfl
theorem im_X4_kindsFor : Cond.instanceMethod yX4_kindsFor ∈ tw_T := tw_4 _ (List.mem_of_getElem? (i := 151) rfl) rfl
theorem se_X4_kindsFor : Cond.selects RX4 yX4_kindsFor yX4_kindsFor ∈ tw_T := tw_4 _ (List.mem_of_getElem? (i := 152) rfl) rfl
theorem co_X4_moods : Cond.code yX4_moods cX4_moods 5 (some .int) ∈ tw_T := tw_4 _ (List.mem_of_getElem? (i := 157) rfl) rfl
theorem im_X4_moods : Cond.instanceMethod yX4_moods ∈ tw_T := tw_4 _ (List.mem_of_getElem? (i := 155) rfl) rfl
theorem se_X4_moods : Cond.selects RX4 yX4_moods yX4_moods ∈ tw_T := tw_4 _ (List.mem_of_getElem? (i := 156) rfl) rfl
theorem co_X4_windFor : Cond.code yX4_windFor cX4_windFor 7 (some .int) ∈ tw_T := tw_4 _ (List.mem_of_getElem? (i := 161) rfl) rfl
theorem im_X4_windFor : Cond.instanceMethod yX4_windFor ∈ tw_T := tw_4 _ (List.mem_of_getElem? (i := 159) rfl) rfl
theorem se_X4_windFor : Cond.selects RX4 yX4_windFor yX4_windFor ∈ tw_T := tw_4 _ (List.mem_of_getElem? (i := 160) rfl) rfl
theorem co_X4_home : Cond.code yX4_home cX4_home 7 (some .int) ∈ tw_T := tw_4 _ (List.mem_of_getElem? (i := 165) rfl) rfl
theorem im_X4_home : Cond.instanceMethod yX4_home ∈ tw_T := tw_4 _ (List.mem_of_getElem? (i := 163) rfl) rfl
theorem se_X4_home : Cond.selects RX4 yX4_home yX4_home ∈ tw_T := tw_4 _ (List.mem_of_getElem? (i := 164) rfl) rfl
theorem co_X4_many : Cond.code yX4_many cX4_many 3 (some .int) ∈ tw_T := tw_4 _ (List.mem_of_getElem? (i := 169) rfl) rfl
theorem sm_X4_many : Cond.static yX4_many ∈ tw_T := tw_4 _ (List.mem_of_getElem? (i := 168) rfl) rfl
theorem co_X4_shut : Cond.code yX4_shut cX4_shut 8 (some .int) ∈ tw_T := tw_4 _ (List.mem_of_getElem? (i := 173) rfl) rfl
theorem im_X4_shut : Cond.instanceMethod yX4_shut ∈ tw_T := tw_4 _ (List.mem_of_getElem? (i := 171) rfl) rfl
theorem se_X4_shut : Cond.selects RX4 yX4_shut yX4_shut ∈ tw_T := tw_4 _ (List.mem_of_getElem? (i := 172) rfl) rfl
theorem co_X4_who : Cond.code yX4_who cX4_who 4 (some .int) ∈ tw_T := tw_4 _ (List.mem_of_getElem? (i := 177) rfl) rfl
theorem im_X4_who : Cond.instanceMethod yX4_who ∈ tw_T := tw_4 _ (List.mem_of_getElem? (i := 175) rfl) rfl
theorem se_X4_who : Cond.selects RX4 yX4_who yX4_who ∈ tw_T := tw_4 _ (List.mem_of_getElem? (i := 176) rfl) rfl
theorem co_X4_wants : Cond.code yX4_wants cX4_wants 2 (some .int) ∈ tw_T := tw_4 _ (List.mem_of_getElem? (i := 181) rfl) rfl
theorem im_X4_wants : Cond.instanceMethod yX4_wants ∈ tw_T := tw_4 _ (List.mem_of_getElem? (i := 180) rfl) rfl
theorem se_X4_wants : Cond.selects RX4 yX4_wants yX4_wants ∈ tw_T := List.mem_filter.mpr ⟨List.mem_append_left _ (List.mem_of_getElem? (i := 42) rfl), rfl⟩
theorem co_X4_isSheet : Cond.code yX4_isSheet cX4_isSheet 1 (some .boolean) ∈ tw_T := tw_4 _ (List.mem_of_getElem? (i := 184) rfl) rfl
theorem sm_X4_isSheet : Cond.static yX4_isSheet ∈ tw_T := tw_4 _ (List.mem_of_getElem? (i := 183) rfl) rfl
theorem co_X4_allBut : Cond.code yX4_allBut cX4_allBut 2 (some .int) ∈ tw_T := tw_4 _ (List.mem_of_getElem? (i := 189) rfl) rfl
theorem im_X4_allBut : Cond.instanceMethod yX4_allBut ∈ tw_T := tw_4 _ (List.mem_of_getElem? (i := 188) rfl) rfl
theorem se_X4_allBut : Cond.selects RX4 yX4_allBut yX4_allBut ∈ tw_T := List.mem_filter.mpr ⟨List.mem_append_left _ (List.mem_of_getElem? (i := 43) rfl), rfl⟩
theorem co_X4_isTold : Cond.code yX4_isTold cX4_isTold 7 (some .boolean) ∈ tw_T := tw_4 _ (List.mem_of_getElem? (i := 193) rfl) rfl
theorem im_X4_isTold : Cond.instanceMethod yX4_isTold ∈ tw_T := tw_4 _ (List.mem_of_getElem? (i := 192) rfl) rfl
theorem se_X4_isTold : Cond.selects RX4 yX4_isTold yX4_isTold ∈ tw_T := List.mem_filter.mpr ⟨List.mem_append_left _ (List.mem_of_getElem? (i := 44) rfl), rfl⟩
theorem co_X4_fits : Cond.code yX4_fits cX4_fits 8 (some .int) ∈ tw_T := tw_4 _ (List.mem_of_getElem? (i := 197) rfl) rfl
theorem im_X4_fits : Cond.instanceMethod yX4_fits ∈ tw_T := tw_4 _ (List.mem_of_getElem? (i := 195) rfl) rfl
theorem se_X4_fits : Cond.selects RX4 yX4_fits yX4_fits ∈ tw_T := tw_4 _ (List.mem_of_getElem? (i := 196) rfl) rfl
theorem co_X4_kinds : Cond.code yX4_kinds cX4_kinds 7 (some .int) ∈ tw_T := tw_4 _ (List.mem_of_getElem? (i := 201) rfl) rfl
theorem im_X4_kinds : Cond.instanceMethod yX4_kinds ∈ tw_T := tw_4 _ (List.mem_of_getElem? (i := 199) rfl) rfl
theorem se_X4_kinds : Cond.selects RX4 yX4_kinds yX4_kinds ∈ tw_T := tw_4 _ (List.mem_of_getElem? (i := 200) rfl) rfl
theorem co_X4_isInMood : Cond.code yX4_isInMood cX4_isInMood 6 (some .boolean) ∈ tw_T := tw_4 _ (List.mem_of_getElem? (i := 205) rfl) rfl
theorem im_X4_isInMood : Cond.instanceMethod yX4_isInMood ∈ tw_T := tw_4 _ (List.mem_of_getElem? (i := 204) rfl) rfl
theorem se_X4_isInMood : Cond.selects RX4 yX4_isInMood yX4_isInMood ∈ tw_T := List.mem_filter.mpr ⟨List.mem_append_left _ (List.mem_of_getElem? (i := 45) rfl), rfl⟩
theorem co_X4_gales : Cond.code yX4_gales cX4_gales 3 (some .int) ∈ tw_T := tw_4 _ (List.mem_of_getElem? (i := 209) rfl) rfl
theorem im_X4_gales : Cond.instanceMethod yX4_gales ∈ tw_T := tw_4 _ (List.mem_of_getElem? (i := 207) rfl) rfl
theorem se_X4_gales : Cond.selects RX4 yX4_gales yX4_gales ∈ tw_T := tw_4 _ (List.mem_of_getElem? (i := 208) rfl) rfl
theorem co_X4_draw : Cond.code yX4_draw cX4_draw 1 (some .int) ∈ tw_T := tw_4 _ (List.mem_of_getElem? (i := 213) rfl) rfl
theorem im_X4_draw : Cond.instanceMethod yX4_draw ∈ tw_T := tw_4 _ (List.mem_of_getElem? (i := 212) rfl) rfl
theorem se_X4_draw : Cond.selects RX4 yX4_draw yX4_draw ∈ tw_T := List.mem_filter.mpr ⟨List.mem_append_left _ (List.mem_of_getElem? (i := 46) rfl), rfl⟩
theorem co_X4_odds : Cond.code yX4_odds cX4_odds 9 (some .long) ∈ tw_T := tw_4 _ (List.mem_of_getElem? (i := 218) rfl) rfl
theorem im_X4_odds : Cond.instanceMethod yX4_odds ∈ tw_T := tw_4 _ (List.mem_of_getElem? (i := 216) rfl) rfl
theorem se_X4_odds : Cond.selects RX4 yX4_odds yX4_odds ∈ tw_T := tw_4 _ (List.mem_of_getElem? (i := 217) rfl) rfl
theorem co_X4_seed : Cond.code yX4_seed cX4_seed 2 (some .int) ∈ tw_T := tw_4 _ (List.mem_of_getElem? (i := 224) rfl) rfl
theorem im_X4_seed : Cond.instanceMethod yX4_seed ∈ tw_T := tw_4 _ (List.mem_of_getElem? (i := 222) rfl) rfl
theorem se_X4_seed : Cond.selects RX4 yX4_seed yX4_seed ∈ tw_T := tw_4 _ (List.mem_of_getElem? (i := 223) rfl) rfl
theorem co_X4_feed : Cond.code yX4_feed cX4_feed 4 (some .int) ∈ tw_T := tw_4 _ (List.mem_of_getElem? (i := 228) rfl) rfl
theorem im_X4_feed : Cond.instanceMethod yX4_feed ∈ tw_T := tw_4 _ (List.mem_of_getElem? (i := 226) rfl) rfl
theorem se_X4_feed : Cond.selects RX4 yX4_feed yX4_feed ∈ tw_T := tw_4 _ (List.mem_of_getElem? (i := 227) rfl) rfl
theorem co_X4_wipe : Cond.code yX4_wipe cX4_wipe 2 (some .int) ∈ tw_T := tw_4 _ (List.mem_of_getElem? (i := 232) rfl) rfl
theorem im_X4_wipe : Cond.instanceMethod yX4_wipe ∈ tw_T := tw_4 _ (List.mem_of_getElem? (i := 230) rfl) rfl
theorem se_X4_wipe : Cond.selects RX4 yX4_wipe yX4_wipe ∈ tw_T := tw_4 _ (List.mem_of_getElem? (i := 231) rfl) rfl
theorem co_X4_text : Cond.code yX4_text cX4_text 3 (some .int) ∈ tw_T := tw_4 _ (List.mem_of_getElem? (i := 236) rfl) rfl
theorem im_X4_text : Cond.instanceMethod yX4_text ∈ tw_T := tw_4 _ (List.mem_of_getElem? (i := 234) rfl) rfl
theorem se_X4_text : Cond.selects RX4 yX4_text yX4_text ∈ tw_T := tw_4 _ (List.mem_of_getElem? (i := 235) rfl) rfl
theorem co_X4_nextToken : Cond.code yX4_nextToken cX4_nextToken 2 none ∈ tw_T := tw_5 _ (List.mem_of_getElem? (i := 0) rfl) rfl
theorem im_X4_nextToken : Cond.instanceMethod yX4_nextToken ∈ tw_T := tw_4 _ (List.mem_of_getElem? (i := 239) rfl) rfl
theorem se_X4_nextToken : Cond.selects RX4 yX4_nextToken yX4_nextToken ∈ tw_T := List.mem_filter.mpr ⟨List.mem_append_left _ (List.mem_of_getElem? (i := 47) rfl), rfl⟩
theorem co_X4_byteAt : Cond.code yX4_byteAt cX4_byteAt 2 (some .int) ∈ tw_T := tw_5 _ (List.mem_of_getElem? (i := 4) rfl) rfl
theorem im_X4_byteAt : Cond.instanceMethod yX4_byteAt ∈ tw_T := tw_5 _ (List.mem_of_getElem? (i := 3) rfl) rfl
theorem se_X4_byteAt : Cond.selects RX4 yX4_byteAt yX4_byteAt ∈ tw_T := List.mem_filter.mpr ⟨List.mem_append_left _ (List.mem_of_getElem? (i := 48) rfl), rfl⟩
theorem co_X4_isLetter : Cond.code yX4_isLetter cX4_isLetter 1 (some .boolean) ∈ tw_T := tw_5 _ (List.mem_of_getElem? (i := 7) rfl) rfl
theorem sm_X4_isLetter : Cond.static yX4_isLetter ∈ tw_T := tw_5 _ (List.mem_of_getElem? (i := 6) rfl) rfl
theorem co_X4_isDigit : Cond.code yX4_isDigit cX4_isDigit 1 (some .boolean) ∈ tw_T := tw_5 _ (List.mem_of_getElem? (i := 10) rfl) rfl
theorem sm_X4_isDigit : Cond.static yX4_isDigit ∈ tw_T := tw_5 _ (List.mem_of_getElem? (i := 9) rfl) rfl
theorem co_X4_itemHere : Cond.code yX4_itemHere cX4_itemHere 3 (some .boolean) ∈ tw_T := tw_5 _ (List.mem_of_getElem? (i := 14) rfl) rfl
theorem im_X4_itemHere : Cond.instanceMethod yX4_itemHere ∈ tw_T := tw_5 _ (List.mem_of_getElem? (i := 13) rfl) rfl
theorem se_X4_itemHere : Cond.selects RX4 yX4_itemHere yX4_itemHere ∈ tw_T := List.mem_filter.mpr ⟨List.mem_append_left _ (List.mem_of_getElem? (i := 49) rfl), rfl⟩
theorem co_X4_kindHere : Cond.code yX4_kindHere cX4_kindHere 1 (some .int) ∈ tw_T := tw_5 _ (List.mem_of_getElem? (i := 18) rfl) rfl
theorem im_X4_kindHere : Cond.instanceMethod yX4_kindHere ∈ tw_T := tw_5 _ (List.mem_of_getElem? (i := 17) rfl) rfl
theorem se_X4_kindHere : Cond.selects RX4 yX4_kindHere yX4_kindHere ∈ tw_T := List.mem_filter.mpr ⟨List.mem_append_left _ (List.mem_of_getElem? (i := 50) rfl), rfl⟩
theorem co_X4_isSix : Cond.code yX4_isSix cX4_isSix 7 (some .boolean) ∈ tw_T := tw_5 _ (List.mem_of_getElem? (i := 22) rfl) rfl
theorem im_X4_isSix : Cond.instanceMethod yX4_isSix ∈ tw_T := tw_5 _ (List.mem_of_getElem? (i := 21) rfl) rfl
theorem se_X4_isSix : Cond.selects RX4 yX4_isSix yX4_isSix ∈ tw_T := List.mem_filter.mpr ⟨List.mem_append_left _ (List.mem_of_getElem? (i := 51) rfl), rfl⟩
theorem co_X4_isWord : Cond.code yX4_isWord cX4_isWord 2 (some .boolean) ∈ tw_T := tw_5 _ (List.mem_of_getElem? (i := 26) rfl) rfl
theorem im_X4_isWord : Cond.instanceMethod yX4_isWord ∈ tw_T := tw_5 _ (List.mem_of_getElem? (i := 25) rfl) rfl
theorem se_X4_isWord : Cond.selects RX4 yX4_isWord yX4_isWord ∈ tw_T := List.mem_filter.mpr ⟨List.mem_append_left _ (List.mem_of_getElem? (i := 52) rfl), rfl⟩
theorem co_X4_has3 : Cond.code yX4_has3 cX4_has3 5 (some .boolean) ∈ tw_T := tw_5 _ (List.mem_of_getElem? (i := 30) rfl) rfl
theorem im_X4_has3 : Cond.instanceMethod yX4_has3 ∈ tw_T := tw_5 _ (List.mem_of_getElem? (i := 29) rfl) rfl
theorem se_X4_has3 : Cond.selects RX4 yX4_has3 yX4_has3 ∈ tw_T := List.mem_filter.mpr ⟨List.mem_append_left _ (List.mem_of_getElem? (i := 53) rfl), rfl⟩
theorem co_X4_isFive : Cond.code yX4_isFive cX4_isFive 6 (some .boolean) ∈ tw_T := tw_5 _ (List.mem_of_getElem? (i := 34) rfl) rfl
theorem im_X4_isFive : Cond.instanceMethod yX4_isFive ∈ tw_T := tw_5 _ (List.mem_of_getElem? (i := 33) rfl) rfl
theorem se_X4_isFive : Cond.selects RX4 yX4_isFive yX4_isFive ∈ tw_T := List.mem_filter.mpr ⟨List.mem_append_left _ (List.mem_of_getElem? (i := 54) rfl), rfl⟩
theorem co_X4_isFour : Cond.code yX4_isFour cX4_isFour 5 (some .boolean) ∈ tw_T := tw_5 _ (List.mem_of_getElem? (i := 38) rfl) rfl
theorem im_X4_isFour : Cond.instanceMethod yX4_isFour ∈ tw_T := tw_5 _ (List.mem_of_getElem? (i := 37) rfl) rfl
theorem se_X4_isFour : Cond.selects RX4 yX4_isFour yX4_isFour ∈ tw_T := List.mem_filter.mpr ⟨List.mem_append_left _ (List.mem_of_getElem? (i := 55) rfl), rfl⟩
theorem co_X4_walkerHere : Cond.code yX4_walkerHere cX4_walkerHere 3 (some .boolean) ∈ tw_T := tw_5 _ (List.mem_of_getElem? (i := 42) rfl) rfl
theorem im_X4_walkerHere : Cond.instanceMethod yX4_walkerHere ∈ tw_T := tw_5 _ (List.mem_of_getElem? (i := 41) rfl) rfl
theorem se_X4_walkerHere : Cond.selects RX4 yX4_walkerHere yX4_walkerHere ∈ tw_T := List.mem_filter.mpr ⟨List.mem_append_left _ (List.mem_of_getElem? (i := 56) rfl), rfl⟩
theorem co_X4_fails : Cond.code yX4_fails cX4_fails 1 (some .boolean) ∈ tw_T := tw_5 _ (List.mem_of_getElem? (i := 46) rfl) rfl
theorem im_X4_fails : Cond.instanceMethod yX4_fails ∈ tw_T := tw_5 _ (List.mem_of_getElem? (i := 45) rfl) rfl
theorem se_X4_fails : Cond.selects RX4 yX4_fails yX4_fails ∈ tw_T := List.mem_filter.mpr ⟨List.mem_append_left _ (List.mem_of_getElem? (i := 57) rfl), rfl⟩
theorem co_X4_isNumber : Cond.code yX4_isNumber cX4_isNumber 3 (some .boolean) ∈ tw_T := tw_5 _ (List.mem_of_getElem? (i := 50) rfl) rfl
theorem im_X4_isNumber : Cond.instanceMethod yX4_isNumber ∈ tw_T := tw_5 _ (List.mem_of_getElem? (i := 49) rfl) rfl
theorem se_X4_isNumber : Cond.selects RX4 yX4_isNumber yX4_isNumber ∈ tw_T := List.mem_filter.mpr ⟨List.mem_append_left _ (List.mem_of_getElem? (i := 58) rfl), rfl⟩
theorem co_X4_standHere : Cond.code yX4_standHere cX4_standHere 1 (some .int) ∈ tw_T := tw_5 _ (List.mem_of_getElem? (i := 54) rfl) rfl
theorem im_X4_standHere : Cond.instanceMethod yX4_standHere ∈ tw_T := tw_5 _ (List.mem_of_getElem? (i := 53) rfl) rfl
theorem se_X4_standHere : Cond.selects RX4 yX4_standHere yX4_standHere ∈ tw_T := List.mem_filter.mpr ⟨List.mem_append_left _ (List.mem_of_getElem? (i := 59) rfl), rfl⟩
theorem co_X4_gateHere : Cond.code yX4_gateHere cX4_gateHere 2 (some .boolean) ∈ tw_T := tw_5 _ (List.mem_of_getElem? (i := 58) rfl) rfl
theorem im_X4_gateHere : Cond.instanceMethod yX4_gateHere ∈ tw_T := tw_5 _ (List.mem_of_getElem? (i := 57) rfl) rfl
theorem se_X4_gateHere : Cond.selects RX4 yX4_gateHere yX4_gateHere ∈ tw_T := List.mem_filter.mpr ⟨List.mem_append_left _ (List.mem_of_getElem? (i := 60) rfl), rfl⟩
theorem co_X4_beastsHere : Cond.code yX4_beastsHere cX4_beastsHere 2 (some .boolean) ∈ tw_T := tw_5 _ (List.mem_of_getElem? (i := 62) rfl) rfl
theorem im_X4_beastsHere : Cond.instanceMethod yX4_beastsHere ∈ tw_T := tw_5 _ (List.mem_of_getElem? (i := 61) rfl) rfl
theorem se_X4_beastsHere : Cond.selects RX4 yX4_beastsHere yX4_beastsHere ∈ tw_T := List.mem_filter.mpr ⟨List.mem_append_left _ (List.mem_of_getElem? (i := 61) rfl), rfl⟩
theorem co_X4_windHere : Cond.code yX4_windHere cX4_windHere 1 (some .boolean) ∈ tw_T := tw_5 _ (List.mem_of_getElem? (i := 66) rfl) rfl
theorem im_X4_windHere : Cond.instanceMethod yX4_windHere ∈ tw_T := tw_5 _ (List.mem_of_getElem? (i := 65) rfl) rfl
theorem se_X4_windHere : Cond.selects RX4 yX4_windHere yX4_windHere ∈ tw_T := List.mem_filter.mpr ⟨List.mem_append_left _ (List.mem_of_getElem? (i := 62) rfl), rfl⟩
theorem co_X4_hold : Cond.code yX4_hold cX4_hold 3 (some .int) ∈ tw_T := tw_5 _ (List.mem_of_getElem? (i := 70) rfl) rfl
theorem im_X4_hold : Cond.instanceMethod yX4_hold ∈ tw_T := tw_5 _ (List.mem_of_getElem? (i := 68) rfl) rfl
theorem se_X4_hold : Cond.selects RX4 yX4_hold yX4_hold ∈ tw_T := tw_5 _ (List.mem_of_getElem? (i := 69) rfl) rfl
theorem co_X4_as : Cond.code yX4_as cX4_as 4 (some .int) ∈ tw_T := tw_5 _ (List.mem_of_getElem? (i := 74) rfl) rfl
theorem im_X4_as : Cond.instanceMethod yX4_as ∈ tw_T := tw_5 _ (List.mem_of_getElem? (i := 72) rfl) rfl
theorem se_X4_as : Cond.selects RX4 yX4_as yX4_as ∈ tw_T := tw_5 _ (List.mem_of_getElem? (i := 73) rfl) rfl
theorem co_X4_isUnder : Cond.code yX4_isUnder cX4_isUnder 2 (some .boolean) ∈ tw_T := tw_5 _ (List.mem_of_getElem? (i := 77) rfl) rfl
theorem sm_X4_isUnder : Cond.static yX4_isUnder ∈ tw_T := tw_5 _ (List.mem_of_getElem? (i := 76) rfl) rfl
theorem co_X4_sheet : Cond.code yX4_sheet cX4_sheet 5 (some .int) ∈ tw_T := tw_5 _ (List.mem_of_getElem? (i := 82) rfl) rfl
theorem im_X4_sheet : Cond.instanceMethod yX4_sheet ∈ tw_T := tw_5 _ (List.mem_of_getElem? (i := 80) rfl) rfl
theorem se_X4_sheet : Cond.selects RX4 yX4_sheet yX4_sheet ∈ tw_T := tw_5 _ (List.mem_of_getElem? (i := 81) rfl) rfl
theorem co_X4_write : Cond.code yX4_write cX4_write 4 (some .int) ∈ tw_T := tw_5 _ (List.mem_of_getElem? (i := 87) rfl) rfl
theorem im_X4_write : Cond.instanceMethod yX4_write ∈ tw_T := tw_5 _ (List.mem_of_getElem? (i := 85) rfl) rfl
theorem se_X4_write : Cond.selects RX4 yX4_write yX4_write ∈ tw_T := tw_5 _ (List.mem_of_getElem? (i := 86) rfl) rfl
theorem co_X4_copy : Cond.code yX4_copy cX4_copy 10 (some .int) ∈ tw_T := tw_5 _ (List.mem_of_getElem? (i := 91) rfl) rfl
theorem im_X4_copy : Cond.instanceMethod yX4_copy ∈ tw_T := tw_5 _ (List.mem_of_getElem? (i := 89) rfl) rfl
theorem se_X4_copy : Cond.selects RX4 yX4_copy yX4_copy ∈ tw_T := tw_5 _ (List.mem_of_getElem? (i := 90) rfl) rfl
theorem co_X4_load : Cond.code yX4_load cX4_load 3 (some .int) ∈ tw_T := tw_5 _ (List.mem_of_getElem? (i := 95) rfl) rfl
theorem im_X4_load : Cond.instanceMethod yX4_load ∈ tw_T := tw_5 _ (List.mem_of_getElem? (i := 93) rfl) rfl
theorem se_X4_load : Cond.selects RX4 yX4_load yX4_load ∈ tw_T := tw_5 _ (List.mem_of_getElem? (i := 94) rfl) rfl
theorem co_X4_judge : Cond.code yX4_judge cX4_judge 3 (some .int) ∈ tw_T := tw_5 _ (List.mem_of_getElem? (i := 99) rfl) rfl
theorem im_X4_judge : Cond.instanceMethod yX4_judge ∈ tw_T := tw_5 _ (List.mem_of_getElem? (i := 97) rfl) rfl
theorem se_X4_judge : Cond.selects RX4 yX4_judge yX4_judge ∈ tw_T := tw_5 _ (List.mem_of_getElem? (i := 98) rfl) rfl
theorem co_X4_image : Cond.code yX4_image cX4_image 1 (some .int) ∈ tw_T := tw_5 _ (List.mem_of_getElem? (i := 103) rfl) rfl
theorem im_X4_image : Cond.instanceMethod yX4_image ∈ tw_T := tw_5 _ (List.mem_of_getElem? (i := 101) rfl) rfl
theorem se_X4_image : Cond.selects RX4 yX4_image yX4_image ∈ tw_T := tw_5 _ (List.mem_of_getElem? (i := 102) rfl) rfl
theorem co_X4_undo : Cond.code yX4_undo cX4_undo 1 (some .int) ∈ tw_T := tw_5 _ (List.mem_of_getElem? (i := 107) rfl) rfl
theorem im_X4_undo : Cond.instanceMethod yX4_undo ∈ tw_T := tw_5 _ (List.mem_of_getElem? (i := 105) rfl) rfl
theorem se_X4_undo : Cond.selects RX4 yX4_undo yX4_undo ∈ tw_T := tw_5 _ (List.mem_of_getElem? (i := 106) rfl) rfl
theorem co_X4_tear : Cond.code yX4_tear cX4_tear 2 (some .int) ∈ tw_T := tw_5 _ (List.mem_of_getElem? (i := 111) rfl) rfl
theorem im_X4_tear : Cond.instanceMethod yX4_tear ∈ tw_T := tw_5 _ (List.mem_of_getElem? (i := 109) rfl) rfl
theorem se_X4_tear : Cond.selects RX4 yX4_tear yX4_tear ∈ tw_T := tw_5 _ (List.mem_of_getElem? (i := 110) rfl) rfl
theorem co_X4_count : Cond.code yX4_count cX4_count 4 (some .int) ∈ tw_T := tw_5 _ (List.mem_of_getElem? (i := 115) rfl) rfl
theorem im_X4_count : Cond.instanceMethod yX4_count ∈ tw_T := tw_5 _ (List.mem_of_getElem? (i := 113) rfl) rfl
theorem se_X4_count : Cond.selects RX4 yX4_count yX4_count ∈ tw_T := tw_5 _ (List.mem_of_getElem? (i := 114) rfl) rfl
theorem co_X4_status : Cond.code yX4_status cX4_status 2 (some .int) ∈ tw_T := tw_5 _ (List.mem_of_getElem? (i := 119) rfl) rfl
theorem im_X4_status : Cond.instanceMethod yX4_status ∈ tw_T := tw_5 _ (List.mem_of_getElem? (i := 117) rfl) rfl
theorem se_X4_status : Cond.selects RX4 yX4_status yX4_status ∈ tw_T := tw_5 _ (List.mem_of_getElem? (i := 118) rfl) rfl
theorem ws_X0 : ∀ w ∈ u_ws RX0 TX0 8, w ∈ tw_T := by decide +kernel
theorem ws_X1 : ∀ w ∈ u_ws RX1 TX1 3, w ∈ tw_T := by decide +kernel
theorem ws_X2 : ∀ w ∈ u_ws RX2 TX2 7, w ∈ tw_T := by decide +kernel
theorem ws_X3 : ∀ w ∈ u_ws RX3 TX3 7, w ∈ tw_T := by decide +kernel
theorem ws_X4 : ∀ w ∈ u_ws RX4 TX4 17, w ∈ tw_T := by decide +kernel
end
section
theorem dX0_init_0 : decode cX0_init 0 = .ok (.aload_n 0, 1) := by decide +kernel
theorem dX0_init_1 : decode cX0_init 1 = .ok (.invokespecial 3, 3) := by decide +kernel
theorem dX0_init_4 : decode cX0_init 4 = .ok (.aload_n 0, 1) := by decide +kernel
theorem dX0_init_5 : decode cX0_init 5 = .ok (.bipush 9, 2) := by decide +kernel
theorem dX0_init_7 : decode cX0_init 7 = .ok (.newarray .int, 2) := by decide +kernel
theorem dX0_init_9 : decode cX0_init 9 = .ok (.putfield 9, 3) := by decide +kernel
theorem dX0_init_12 : decode cX0_init 12 = .ok (.aload_n 0, 1) := by decide +kernel
theorem dX0_init_13 : decode cX0_init 13 = .ok (.bipush 8, 2) := by decide +kernel
theorem dX0_init_15 : decode cX0_init 15 = .ok (.newarray .int, 2) := by decide +kernel
theorem dX0_init_17 : decode cX0_init 17 = .ok (.putfield 15, 3) := by decide +kernel
theorem dX0_init_20 : decode cX0_init 20 = .ok (.aload_n 0, 1) := by decide +kernel
theorem dX0_init_21 : decode cX0_init 21 = .ok (.iconst 5, 1) := by decide +kernel
theorem dX0_init_22 : decode cX0_init 22 = .ok (.bipush 8, 2) := by decide +kernel
theorem dX0_init_24 : decode cX0_init 24 = .ok (.multianewarray 18 2, 4) := by decide +kernel
theorem dX0_init_28 : decode cX0_init 28 = .ok (.putfield 20, 3) := by decide +kernel
theorem dX0_init_31 : decode cX0_init 31 = .ok (.aload_n 0, 1) := by decide +kernel
theorem dX0_init_32 : decode cX0_init 32 = .ok (.bipush 10, 2) := by decide +kernel
theorem dX0_init_34 : decode cX0_init 34 = .ok (.newarray .int, 2) := by decide +kernel
theorem dX0_init_36 : decode cX0_init 36 = .ok (.putfield 23, 3) := by decide +kernel
theorem dX0_init_39 : decode cX0_init 39 = .ok (.aload_n 0, 1) := by decide +kernel
theorem dX0_init_40 : decode cX0_init 40 = .ok (.iconst 0, 1) := by decide +kernel
theorem dX0_init_41 : decode cX0_init 41 = .ok (.putfield 26, 3) := by decide +kernel
theorem dX0_init_44 : decode cX0_init 44 = .ok (.aload_n 0, 1) := by decide +kernel
theorem dX0_init_45 : decode cX0_init 45 = .ok (.iconst 0, 1) := by decide +kernel
theorem dX0_init_46 : decode cX0_init 46 = .ok (.putfield 30, 3) := by decide +kernel
theorem dX0_init_49 : decode cX0_init 49 = .ok (.aload_n 0, 1) := by decide +kernel
theorem dX0_init_50 : decode cX0_init 50 = .ok (.iconst 0, 1) := by decide +kernel
theorem dX0_init_51 : decode cX0_init 51 = .ok (.putfield 33, 3) := by decide +kernel
theorem dX0_init_54 : decode cX0_init 54 = .ok (.aload_n 0, 1) := by decide +kernel
theorem dX0_init_55 : decode cX0_init 55 = .ok (.iconst 1, 1) := by decide +kernel
theorem dX0_init_56 : decode cX0_init 56 = .ok (.putfield 36, 3) := by decide +kernel
theorem dX0_init_59 : decode cX0_init 59 = .ok (.iconst 0, 1) := by decide +kernel
theorem dX0_init_60 : decode cX0_init 60 = .ok (.istore_n 1, 1) := by decide +kernel
theorem dX0_init_61 : decode cX0_init 61 = .ok (.iload_n 1, 1) := by decide +kernel
theorem dX0_init_62 : decode cX0_init 62 = .ok (.bipush 10, 2) := by decide +kernel
theorem dX0_init_64 : decode cX0_init 64 = .ok (.if_icmp .ge 16, 3) := by decide +kernel
theorem dX0_init_67 : decode cX0_init 67 = .ok (.aload_n 0, 1) := by decide +kernel
theorem dX0_init_68 : decode cX0_init 68 = .ok (.getfield 23, 3) := by decide +kernel
theorem dX0_init_71 : decode cX0_init 71 = .ok (.iload_n 1, 1) := by decide +kernel
theorem dX0_init_72 : decode cX0_init 72 = .ok (.iconst (-1), 1) := by decide +kernel
theorem dX0_init_73 : decode cX0_init 73 = .ok (.iastore, 1) := by decide +kernel
theorem dX0_init_74 : decode cX0_init 74 = .ok (.iinc 1 1, 3) := by decide +kernel
theorem dX0_init_77 : decode cX0_init 77 = .ok (.goto (-16), 3) := by decide +kernel
theorem dX0_init_80 : decode cX0_init 80 = .ok (.return_, 1) := by decide +kernel
theorem dX0_become_0 : decode cX0_become 0 = .ok (.aload_n 1, 1) := by decide +kernel
theorem dX0_become_1 : decode cX0_become 1 = .ok (.getfield 9, 3) := by decide +kernel
theorem dX0_become_4 : decode cX0_become 4 = .ok (.iconst 0, 1) := by decide +kernel
theorem dX0_become_5 : decode cX0_become 5 = .ok (.aload_n 0, 1) := by decide +kernel
theorem dX0_become_6 : decode cX0_become 6 = .ok (.getfield 9, 3) := by decide +kernel
theorem dX0_become_9 : decode cX0_become 9 = .ok (.iconst 0, 1) := by decide +kernel
theorem dX0_become_10 : decode cX0_become 10 = .ok (.bipush 9, 2) := by decide +kernel
theorem dX0_become_12 : decode cX0_become 12 = .ok (.invokestatic 39, 3) := by decide +kernel
theorem dX0_become_15 : decode cX0_become 15 = .ok (.aload_n 1, 1) := by decide +kernel
theorem dX0_become_16 : decode cX0_become 16 = .ok (.getfield 15, 3) := by decide +kernel
theorem dX0_become_19 : decode cX0_become 19 = .ok (.iconst 0, 1) := by decide +kernel
theorem dX0_become_20 : decode cX0_become 20 = .ok (.aload_n 0, 1) := by decide +kernel
theorem dX0_become_21 : decode cX0_become 21 = .ok (.getfield 15, 3) := by decide +kernel
theorem dX0_become_24 : decode cX0_become 24 = .ok (.iconst 0, 1) := by decide +kernel
theorem dX0_become_25 : decode cX0_become 25 = .ok (.bipush 8, 2) := by decide +kernel
theorem dX0_become_27 : decode cX0_become 27 = .ok (.invokestatic 39, 3) := by decide +kernel
theorem dX0_become_30 : decode cX0_become 30 = .ok (.iconst 0, 1) := by decide +kernel
theorem dX0_become_31 : decode cX0_become 31 = .ok (.istore_n 2, 1) := by decide +kernel
theorem dX0_become_32 : decode cX0_become 32 = .ok (.iload_n 2, 1) := by decide +kernel
theorem dX0_become_33 : decode cX0_become 33 = .ok (.iconst 5, 1) := by decide +kernel
theorem dX0_become_34 : decode cX0_become 34 = .ok (.if_icmp .ge 28, 3) := by decide +kernel
theorem dX0_become_37 : decode cX0_become 37 = .ok (.aload_n 1, 1) := by decide +kernel
theorem dX0_become_38 : decode cX0_become 38 = .ok (.getfield 20, 3) := by decide +kernel
theorem dX0_become_41 : decode cX0_become 41 = .ok (.iload_n 2, 1) := by decide +kernel
theorem dX0_become_42 : decode cX0_become 42 = .ok (.aaload, 1) := by decide +kernel
theorem dX0_become_43 : decode cX0_become 43 = .ok (.iconst 0, 1) := by decide +kernel
theorem dX0_become_44 : decode cX0_become 44 = .ok (.aload_n 0, 1) := by decide +kernel
theorem dX0_become_45 : decode cX0_become 45 = .ok (.getfield 20, 3) := by decide +kernel
theorem dX0_become_48 : decode cX0_become 48 = .ok (.iload_n 2, 1) := by decide +kernel
theorem dX0_become_49 : decode cX0_become 49 = .ok (.aaload, 1) := by decide +kernel
theorem dX0_become_50 : decode cX0_become 50 = .ok (.iconst 0, 1) := by decide +kernel
theorem dX0_become_51 : decode cX0_become 51 = .ok (.bipush 8, 2) := by decide +kernel
theorem dX0_become_53 : decode cX0_become 53 = .ok (.invokestatic 39, 3) := by decide +kernel
theorem dX0_become_56 : decode cX0_become 56 = .ok (.iinc 2 1, 3) := by decide +kernel
theorem dX0_become_59 : decode cX0_become 59 = .ok (.goto (-27), 3) := by decide +kernel
theorem dX0_become_62 : decode cX0_become 62 = .ok (.aload_n 1, 1) := by decide +kernel
theorem dX0_become_63 : decode cX0_become 63 = .ok (.getfield 23, 3) := by decide +kernel
theorem dX0_become_66 : decode cX0_become 66 = .ok (.iconst 0, 1) := by decide +kernel
theorem dX0_become_67 : decode cX0_become 67 = .ok (.aload_n 0, 1) := by decide +kernel
theorem dX0_become_68 : decode cX0_become 68 = .ok (.getfield 23, 3) := by decide +kernel
theorem dX0_become_71 : decode cX0_become 71 = .ok (.iconst 0, 1) := by decide +kernel
theorem dX0_become_72 : decode cX0_become 72 = .ok (.bipush 10, 2) := by decide +kernel
theorem dX0_become_74 : decode cX0_become 74 = .ok (.invokestatic 39, 3) := by decide +kernel
theorem dX0_become_77 : decode cX0_become 77 = .ok (.aload_n 0, 1) := by decide +kernel
theorem dX0_become_78 : decode cX0_become 78 = .ok (.aload_n 1, 1) := by decide +kernel
theorem dX0_become_79 : decode cX0_become 79 = .ok (.getfield 26, 3) := by decide +kernel
theorem dX0_become_82 : decode cX0_become 82 = .ok (.putfield 26, 3) := by decide +kernel
theorem dX0_become_85 : decode cX0_become 85 = .ok (.aload_n 0, 1) := by decide +kernel
theorem dX0_become_86 : decode cX0_become 86 = .ok (.aload_n 1, 1) := by decide +kernel
theorem dX0_become_87 : decode cX0_become 87 = .ok (.getfield 30, 3) := by decide +kernel
theorem dX0_become_90 : decode cX0_become 90 = .ok (.putfield 30, 3) := by decide +kernel
theorem dX0_become_93 : decode cX0_become 93 = .ok (.aload_n 0, 1) := by decide +kernel
theorem dX0_become_94 : decode cX0_become 94 = .ok (.aload_n 1, 1) := by decide +kernel
theorem dX0_become_95 : decode cX0_become 95 = .ok (.getfield 33, 3) := by decide +kernel
theorem dX0_become_98 : decode cX0_become 98 = .ok (.putfield 33, 3) := by decide +kernel
theorem dX0_become_101 : decode cX0_become 101 = .ok (.aload_n 0, 1) := by decide +kernel
theorem dX0_become_102 : decode cX0_become 102 = .ok (.aload_n 1, 1) := by decide +kernel
theorem dX0_become_103 : decode cX0_become 103 = .ok (.getfield 36, 3) := by decide +kernel
theorem dX0_become_106 : decode cX0_become 106 = .ok (.putfield 36, 3) := by decide +kernel
theorem dX0_become_109 : decode cX0_become 109 = .ok (.return_, 1) := by decide +kernel
theorem dX0_addWalker_0 : decode cX0_addWalker 0 = .ok (.aload_n 0, 1) := by decide +kernel
theorem dX0_addWalker_1 : decode cX0_addWalker 1 = .ok (.getfield 26, 3) := by decide +kernel
theorem dX0_addWalker_4 : decode cX0_addWalker 4 = .ok (.bipush 8, 2) := by decide +kernel
theorem dX0_addWalker_6 : decode cX0_addWalker 6 = .ok (.if_icmp .lt 5, 3) := by decide +kernel
theorem dX0_addWalker_9 : decode cX0_addWalker 9 = .ok (.iconst (-1), 1) := by decide +kernel
theorem dX0_addWalker_10 : decode cX0_addWalker 10 = .ok (.ireturn, 1) := by decide +kernel
theorem dX0_addWalker_11 : decode cX0_addWalker 11 = .ok (.aload_n 0, 1) := by decide +kernel
theorem dX0_addWalker_12 : decode cX0_addWalker 12 = .ok (.getfield 26, 3) := by decide +kernel
theorem dX0_addWalker_15 : decode cX0_addWalker 15 = .ok (.istore_n 3, 1) := by decide +kernel
theorem dX0_addWalker_16 : decode cX0_addWalker 16 = .ok (.aload_n 0, 1) := by decide +kernel
theorem dX0_addWalker_17 : decode cX0_addWalker 17 = .ok (.dup, 1) := by decide +kernel
theorem dX0_addWalker_18 : decode cX0_addWalker 18 = .ok (.getfield 26, 3) := by decide +kernel
theorem dX0_addWalker_21 : decode cX0_addWalker 21 = .ok (.iconst 1, 1) := by decide +kernel
theorem dX0_addWalker_22 : decode cX0_addWalker 22 = .ok (.iadd, 1) := by decide +kernel
theorem dX0_addWalker_23 : decode cX0_addWalker 23 = .ok (.putfield 26, 3) := by decide +kernel
theorem dX0_addWalker_26 : decode cX0_addWalker 26 = .ok (.aload_n 0, 1) := by decide +kernel
theorem dX0_addWalker_27 : decode cX0_addWalker 27 = .ok (.getfield 20, 3) := by decide +kernel
theorem dX0_addWalker_30 : decode cX0_addWalker 30 = .ok (.iconst 0, 1) := by decide +kernel
theorem dX0_addWalker_31 : decode cX0_addWalker 31 = .ok (.aaload, 1) := by decide +kernel
theorem dX0_addWalker_32 : decode cX0_addWalker 32 = .ok (.iload_n 3, 1) := by decide +kernel
theorem dX0_addWalker_33 : decode cX0_addWalker 33 = .ok (.iload_n 1, 1) := by decide +kernel
theorem dX0_addWalker_34 : decode cX0_addWalker 34 = .ok (.iastore, 1) := by decide +kernel
theorem dX0_addWalker_35 : decode cX0_addWalker 35 = .ok (.aload_n 0, 1) := by decide +kernel
theorem dX0_addWalker_36 : decode cX0_addWalker 36 = .ok (.getfield 20, 3) := by decide +kernel
theorem dX0_addWalker_39 : decode cX0_addWalker 39 = .ok (.iconst 1, 1) := by decide +kernel
theorem dX0_addWalker_40 : decode cX0_addWalker 40 = .ok (.aaload, 1) := by decide +kernel
theorem dX0_addWalker_41 : decode cX0_addWalker 41 = .ok (.iload_n 3, 1) := by decide +kernel
theorem dX0_addWalker_42 : decode cX0_addWalker 42 = .ok (.iload_n 2, 1) := by decide +kernel
theorem dX0_addWalker_43 : decode cX0_addWalker 43 = .ok (.iastore, 1) := by decide +kernel
theorem dX0_addWalker_44 : decode cX0_addWalker 44 = .ok (.aload_n 0, 1) := by decide +kernel
theorem dX0_addWalker_45 : decode cX0_addWalker 45 = .ok (.getfield 20, 3) := by decide +kernel
theorem dX0_addWalker_48 : decode cX0_addWalker 48 = .ok (.iconst 2, 1) := by decide +kernel
theorem dX0_addWalker_49 : decode cX0_addWalker 49 = .ok (.aaload, 1) := by decide +kernel
theorem dX0_addWalker_50 : decode cX0_addWalker 50 = .ok (.iload_n 3, 1) := by decide +kernel
theorem dX0_addWalker_51 : decode cX0_addWalker 51 = .ok (.iconst 0, 1) := by decide +kernel
theorem dX0_addWalker_52 : decode cX0_addWalker 52 = .ok (.iastore, 1) := by decide +kernel
theorem dX0_addWalker_53 : decode cX0_addWalker 53 = .ok (.aload_n 0, 1) := by decide +kernel
theorem dX0_addWalker_54 : decode cX0_addWalker 54 = .ok (.getfield 20, 3) := by decide +kernel
theorem dX0_addWalker_57 : decode cX0_addWalker 57 = .ok (.iconst 3, 1) := by decide +kernel
theorem dX0_addWalker_58 : decode cX0_addWalker 58 = .ok (.aaload, 1) := by decide +kernel
theorem dX0_addWalker_59 : decode cX0_addWalker 59 = .ok (.iload_n 3, 1) := by decide +kernel
theorem dX0_addWalker_60 : decode cX0_addWalker 60 = .ok (.iconst 3, 1) := by decide +kernel
theorem dX0_addWalker_61 : decode cX0_addWalker 61 = .ok (.iastore, 1) := by decide +kernel
theorem dX0_addWalker_62 : decode cX0_addWalker 62 = .ok (.aload_n 0, 1) := by decide +kernel
theorem dX0_addWalker_63 : decode cX0_addWalker 63 = .ok (.getfield 20, 3) := by decide +kernel
theorem dX0_addWalker_66 : decode cX0_addWalker 66 = .ok (.iconst 4, 1) := by decide +kernel
theorem dX0_addWalker_67 : decode cX0_addWalker 67 = .ok (.aaload, 1) := by decide +kernel
theorem dX0_addWalker_68 : decode cX0_addWalker 68 = .ok (.iload_n 3, 1) := by decide +kernel
theorem dX0_addWalker_69 : decode cX0_addWalker 69 = .ok (.iconst 0, 1) := by decide +kernel
theorem dX0_addWalker_70 : decode cX0_addWalker 70 = .ok (.iastore, 1) := by decide +kernel
theorem dX0_addWalker_71 : decode cX0_addWalker 71 = .ok (.iload_n 3, 1) := by decide +kernel
theorem dX0_addWalker_72 : decode cX0_addWalker 72 = .ok (.ireturn, 1) := by decide +kernel
theorem dX0_leftBy_0 : decode cX0_leftBy 0 = .ok (.aload_n 0, 1) := by decide +kernel
theorem dX0_leftBy_1 : decode cX0_leftBy 1 = .ok (.getfield 30, 3) := by decide +kernel
theorem dX0_leftBy_4 : decode cX0_leftBy 4 = .ok (.iconst 5, 1) := by decide +kernel
theorem dX0_leftBy_5 : decode cX0_leftBy 5 = .ok (.if_icmp .lt 7, 3) := by decide +kernel
theorem dX0_leftBy_8 : decode cX0_leftBy 8 = .ok (.iconst 0, 1) := by decide +kernel
theorem dX0_leftBy_9 : decode cX0_leftBy 9 = .ok (.goto 4, 3) := by decide +kernel
theorem dX0_leftBy_12 : decode cX0_leftBy 12 = .ok (.iload_n 2, 1) := by decide +kernel
theorem dX0_leftBy_13 : decode cX0_leftBy 13 = .ok (.istore_n 3, 1) := by decide +kernel
theorem dX0_leftBy_14 : decode cX0_leftBy 14 = .ok (.iload_n 3, 1) := by decide +kernel
theorem dX0_leftBy_15 : decode cX0_leftBy 15 = .ok (.iconst 1, 1) := by decide +kernel
theorem dX0_leftBy_16 : decode cX0_leftBy 16 = .ok (.if_icmp .ne 7, 3) := by decide +kernel
theorem dX0_leftBy_19 : decode cX0_leftBy 19 = .ok (.iconst 2, 1) := by decide +kernel
theorem dX0_leftBy_20 : decode cX0_leftBy 20 = .ok (.goto 4, 3) := by decide +kernel
theorem dX0_leftBy_23 : decode cX0_leftBy 23 = .ok (.iload_n 3, 1) := by decide +kernel
theorem dX0_leftBy_24 : decode cX0_leftBy 24 = .ok (.istore 4, 2) := by decide +kernel
theorem dX0_leftBy_26 : decode cX0_leftBy 26 = .ok (.iload 4, 2) := by decide +kernel
theorem dX0_leftBy_28 : decode cX0_leftBy 28 = .ok (.aload_n 0, 1) := by decide +kernel
theorem dX0_leftBy_29 : decode cX0_leftBy 29 = .ok (.getfield 20, 3) := by decide +kernel
theorem dX0_leftBy_32 : decode cX0_leftBy 32 = .ok (.iconst 3, 1) := by decide +kernel
theorem dX0_leftBy_33 : decode cX0_leftBy 33 = .ok (.aaload, 1) := by decide +kernel
theorem dX0_leftBy_34 : decode cX0_leftBy 34 = .ok (.iload_n 1, 1) := by decide +kernel
theorem dX0_leftBy_35 : decode cX0_leftBy 35 = .ok (.iaload, 1) := by decide +kernel
theorem dX0_leftBy_36 : decode cX0_leftBy 36 = .ok (.iadd, 1) := by decide +kernel
theorem dX0_leftBy_37 : decode cX0_leftBy 37 = .ok (.iconst 4, 1) := by decide +kernel
theorem dX0_leftBy_38 : decode cX0_leftBy 38 = .ok (.irem, 1) := by decide +kernel
theorem dX0_leftBy_39 : decode cX0_leftBy 39 = .ok (.istore 5, 2) := by decide +kernel
theorem dX0_leftBy_41 : decode cX0_leftBy 41 = .ok (.aload_n 0, 1) := by decide +kernel
theorem dX0_leftBy_42 : decode cX0_leftBy 42 = .ok (.getfield 20, 3) := by decide +kernel
theorem dX0_leftBy_45 : decode cX0_leftBy 45 = .ok (.iconst 0, 1) := by decide +kernel
theorem dX0_leftBy_46 : decode cX0_leftBy 46 = .ok (.aaload, 1) := by decide +kernel
theorem dX0_leftBy_47 : decode cX0_leftBy 47 = .ok (.iload_n 1, 1) := by decide +kernel
theorem dX0_leftBy_48 : decode cX0_leftBy 48 = .ok (.iaload, 1) := by decide +kernel
theorem dX0_leftBy_49 : decode cX0_leftBy 49 = .ok (.tableswitch 64 1 6 #[39, 51, 54, 57, 62, 41], 39) := by decide +kernel
theorem dX0_leftBy_88 : decode cX0_leftBy 88 = .ok (.iconst 3, 1) := by decide +kernel
theorem dX0_leftBy_89 : decode cX0_leftBy 89 = .ok (.ireturn, 1) := by decide +kernel
theorem dX0_leftBy_90 : decode cX0_leftBy 90 = .ok (.iload_n 2, 1) := by decide +kernel
theorem dX0_leftBy_91 : decode cX0_leftBy 91 = .ok (.ifCond .ne 7, 3) := by decide +kernel
theorem dX0_leftBy_94 : decode cX0_leftBy 94 = .ok (.iconst 1, 1) := by decide +kernel
theorem dX0_leftBy_95 : decode cX0_leftBy 95 = .ok (.goto 4, 3) := by decide +kernel
theorem dX0_leftBy_98 : decode cX0_leftBy 98 = .ok (.iconst 3, 1) := by decide +kernel
theorem dX0_leftBy_99 : decode cX0_leftBy 99 = .ok (.ireturn, 1) := by decide +kernel
theorem dX0_leftBy_100 : decode cX0_leftBy 100 = .ok (.iload 4, 2) := by decide +kernel
theorem dX0_leftBy_102 : decode cX0_leftBy 102 = .ok (.ireturn, 1) := by decide +kernel
theorem dX0_leftBy_103 : decode cX0_leftBy 103 = .ok (.iload 5, 2) := by decide +kernel
theorem dX0_leftBy_105 : decode cX0_leftBy 105 = .ok (.ireturn, 1) := by decide +kernel
theorem dX0_leftBy_106 : decode cX0_leftBy 106 = .ok (.iconst 3, 1) := by decide +kernel
theorem dX0_leftBy_107 : decode cX0_leftBy 107 = .ok (.iload 5, 2) := by decide +kernel
theorem dX0_leftBy_109 : decode cX0_leftBy 109 = .ok (.isub, 1) := by decide +kernel
theorem dX0_leftBy_110 : decode cX0_leftBy 110 = .ok (.ireturn, 1) := by decide +kernel
theorem dX0_leftBy_111 : decode cX0_leftBy 111 = .ok (.iconst 0, 1) := by decide +kernel
theorem dX0_leftBy_112 : decode cX0_leftBy 112 = .ok (.ireturn, 1) := by decide +kernel
theorem dX0_leftBy_113 : decode cX0_leftBy 113 = .ok (.iload_n 3, 1) := by decide +kernel
theorem dX0_leftBy_114 : decode cX0_leftBy 114 = .ok (.ireturn, 1) := by decide +kernel
theorem dX0_feltBy_0 : decode cX0_feltBy 0 = .ok (.aload_n 0, 1) := by decide +kernel
theorem dX0_feltBy_1 : decode cX0_feltBy 1 = .ok (.getfield 20, 3) := by decide +kernel
theorem dX0_feltBy_4 : decode cX0_feltBy 4 = .ok (.iconst 3, 1) := by decide +kernel
theorem dX0_feltBy_5 : decode cX0_feltBy 5 = .ok (.aaload, 1) := by decide +kernel
theorem dX0_feltBy_6 : decode cX0_feltBy 6 = .ok (.iload_n 1, 1) := by decide +kernel
theorem dX0_feltBy_7 : decode cX0_feltBy 7 = .ok (.iaload, 1) := by decide +kernel
theorem dX0_feltBy_8 : decode cX0_feltBy 8 = .ok (.istore_n 3, 1) := by decide +kernel
theorem dX0_feltBy_9 : decode cX0_feltBy 9 = .ok (.bipush 9, 2) := by decide +kernel
theorem dX0_feltBy_11 : decode cX0_feltBy 11 = .ok (.istore 4, 2) := by decide +kernel
theorem dX0_feltBy_13 : decode cX0_feltBy 13 = .ok (.iload_n 3, 1) := by decide +kernel
theorem dX0_feltBy_14 : decode cX0_feltBy 14 = .ok (.iload_n 2, 1) := by decide +kernel
theorem dX0_feltBy_15 : decode cX0_feltBy 15 = .ok (.iadd, 1) := by decide +kernel
theorem dX0_feltBy_16 : decode cX0_feltBy 16 = .ok (.bipush 9, 2) := by decide +kernel
theorem dX0_feltBy_18 : decode cX0_feltBy 18 = .ok (.invokestatic 45, 3) := by decide +kernel
theorem dX0_feltBy_21 : decode cX0_feltBy 21 = .ok (.istore 5, 2) := by decide +kernel
theorem dX0_feltBy_23 : decode cX0_feltBy 23 = .ok (.iload 5, 2) := by decide +kernel
theorem dX0_feltBy_25 : decode cX0_feltBy 25 = .ok (.iconst 1, 1) := by decide +kernel
theorem dX0_feltBy_26 : decode cX0_feltBy 26 = .ok (.iadd, 1) := by decide +kernel
theorem dX0_feltBy_27 : decode cX0_feltBy 27 = .ok (.bipush 9, 2) := by decide +kernel
theorem dX0_feltBy_29 : decode cX0_feltBy 29 = .ok (.invokestatic 45, 3) := by decide +kernel
theorem dX0_feltBy_32 : decode cX0_feltBy 32 = .ok (.istore 6, 2) := by decide +kernel
theorem dX0_feltBy_34 : decode cX0_feltBy 34 = .ok (.aload_n 0, 1) := by decide +kernel
theorem dX0_feltBy_35 : decode cX0_feltBy 35 = .ok (.getfield 20, 3) := by decide +kernel
theorem dX0_feltBy_38 : decode cX0_feltBy 38 = .ok (.iconst 0, 1) := by decide +kernel
theorem dX0_feltBy_39 : decode cX0_feltBy 39 = .ok (.aaload, 1) := by decide +kernel
theorem dX0_feltBy_40 : decode cX0_feltBy 40 = .ok (.iload_n 1, 1) := by decide +kernel
theorem dX0_feltBy_41 : decode cX0_feltBy 41 = .ok (.iaload, 1) := by decide +kernel
theorem dX0_feltBy_42 : decode cX0_feltBy 42 = .ok (.tableswitch 65 1 6 #[38, 46, 49, 52, 57, 41], 38) := by decide +kernel
theorem dX0_feltBy_80 : decode cX0_feltBy 80 = .ok (.iload 4, 2) := by decide +kernel
theorem dX0_feltBy_82 : decode cX0_feltBy 82 = .ok (.ireturn, 1) := by decide +kernel
theorem dX0_feltBy_83 : decode cX0_feltBy 83 = .ok (.iload 4, 2) := by decide +kernel
theorem dX0_feltBy_85 : decode cX0_feltBy 85 = .ok (.iload_n 2, 1) := by decide +kernel
theorem dX0_feltBy_86 : decode cX0_feltBy 86 = .ok (.isub, 1) := by decide +kernel
theorem dX0_feltBy_87 : decode cX0_feltBy 87 = .ok (.ireturn, 1) := by decide +kernel
theorem dX0_feltBy_88 : decode cX0_feltBy 88 = .ok (.iload 5, 2) := by decide +kernel
theorem dX0_feltBy_90 : decode cX0_feltBy 90 = .ok (.ireturn, 1) := by decide +kernel
theorem dX0_feltBy_91 : decode cX0_feltBy 91 = .ok (.iload 6, 2) := by decide +kernel
theorem dX0_feltBy_93 : decode cX0_feltBy 93 = .ok (.ireturn, 1) := by decide +kernel
theorem dX0_feltBy_94 : decode cX0_feltBy 94 = .ok (.iload 6, 2) := by decide +kernel
theorem dX0_feltBy_96 : decode cX0_feltBy 96 = .ok (.iconst 2, 1) := by decide +kernel
theorem dX0_feltBy_97 : decode cX0_feltBy 97 = .ok (.idiv, 1) := by decide +kernel
theorem dX0_feltBy_98 : decode cX0_feltBy 98 = .ok (.ireturn, 1) := by decide +kernel
theorem dX0_feltBy_99 : decode cX0_feltBy 99 = .ok (.iload_n 3, 1) := by decide +kernel
theorem dX0_feltBy_100 : decode cX0_feltBy 100 = .ok (.iconst 1, 1) := by decide +kernel
theorem dX0_feltBy_101 : decode cX0_feltBy 101 = .ok (.isub, 1) := by decide +kernel
theorem dX0_feltBy_102 : decode cX0_feltBy 102 = .ok (.iconst 0, 1) := by decide +kernel
theorem dX0_feltBy_103 : decode cX0_feltBy 103 = .ok (.invokestatic 51, 3) := by decide +kernel
theorem dX0_feltBy_106 : decode cX0_feltBy 106 = .ok (.ireturn, 1) := by decide +kernel
theorem dX0_feltBy_107 : decode cX0_feltBy 107 = .ok (.iload_n 3, 1) := by decide +kernel
theorem dX0_feltBy_108 : decode cX0_feltBy 108 = .ok (.ireturn, 1) := by decide +kernel
theorem dX0_goesOf_0 : decode cX0_goesOf 0 = .ok (.aload_n 0, 1) := by decide +kernel
theorem dX0_goesOf_1 : decode cX0_goesOf 1 = .ok (.getfield 20, 3) := by decide +kernel
theorem dX0_goesOf_4 : decode cX0_goesOf 4 = .ok (.iconst 3, 1) := by decide +kernel
theorem dX0_goesOf_5 : decode cX0_goesOf 5 = .ok (.aaload, 1) := by decide +kernel
theorem dX0_goesOf_6 : decode cX0_goesOf 6 = .ok (.iload_n 1, 1) := by decide +kernel
theorem dX0_goesOf_7 : decode cX0_goesOf 7 = .ok (.iaload, 1) := by decide +kernel
theorem dX0_goesOf_8 : decode cX0_goesOf 8 = .ok (.iconst 5, 1) := by decide +kernel
theorem dX0_goesOf_9 : decode cX0_goesOf 9 = .ok (.if_icmp .lt 7, 3) := by decide +kernel
theorem dX0_goesOf_12 : decode cX0_goesOf 12 = .ok (.iconst 3, 1) := by decide +kernel
theorem dX0_goesOf_13 : decode cX0_goesOf 13 = .ok (.goto 4, 3) := by decide +kernel
theorem dX0_goesOf_16 : decode cX0_goesOf 16 = .ok (.iconst 1, 1) := by decide +kernel
theorem dX0_goesOf_17 : decode cX0_goesOf 17 = .ok (.istore_n 2, 1) := by decide +kernel
theorem dX0_goesOf_18 : decode cX0_goesOf 18 = .ok (.aload_n 0, 1) := by decide +kernel
theorem dX0_goesOf_19 : decode cX0_goesOf 19 = .ok (.getfield 20, 3) := by decide +kernel
theorem dX0_goesOf_22 : decode cX0_goesOf 22 = .ok (.iconst 0, 1) := by decide +kernel
theorem dX0_goesOf_23 : decode cX0_goesOf 23 = .ok (.aaload, 1) := by decide +kernel
theorem dX0_goesOf_24 : decode cX0_goesOf 24 = .ok (.iload_n 1, 1) := by decide +kernel
theorem dX0_goesOf_25 : decode cX0_goesOf 25 = .ok (.iaload, 1) := by decide +kernel
theorem dX0_goesOf_26 : decode cX0_goesOf 26 = .ok (.tableswitch 46 1 6 #[38, 40, 42, 42, 46, 38], 38) := by decide +kernel
theorem dX0_goesOf_64 : decode cX0_goesOf 64 = .ok (.iconst 2, 1) := by decide +kernel
theorem dX0_goesOf_65 : decode cX0_goesOf 65 = .ok (.ireturn, 1) := by decide +kernel
theorem dX0_goesOf_66 : decode cX0_goesOf 66 = .ok (.iload_n 2, 1) := by decide +kernel
theorem dX0_goesOf_67 : decode cX0_goesOf 67 = .ok (.ireturn, 1) := by decide +kernel
theorem dX0_goesOf_68 : decode cX0_goesOf 68 = .ok (.iload_n 2, 1) := by decide +kernel
theorem dX0_goesOf_69 : decode cX0_goesOf 69 = .ok (.iconst 1, 1) := by decide +kernel
theorem dX0_goesOf_70 : decode cX0_goesOf 70 = .ok (.isub, 1) := by decide +kernel
theorem dX0_goesOf_71 : decode cX0_goesOf 71 = .ok (.ireturn, 1) := by decide +kernel
theorem dX0_goesOf_72 : decode cX0_goesOf 72 = .ok (.iconst 1, 1) := by decide +kernel
theorem dX0_goesOf_73 : decode cX0_goesOf 73 = .ok (.ireturn, 1) := by decide +kernel
theorem dX0_passHours_0 : decode cX0_passHours 0 = .ok (.iconst 0, 1) := by decide +kernel
theorem dX0_passHours_1 : decode cX0_passHours 1 = .ok (.istore_n 3, 1) := by decide +kernel
theorem dX0_passHours_2 : decode cX0_passHours 2 = .ok (.iload_n 3, 1) := by decide +kernel
theorem dX0_passHours_3 : decode cX0_passHours 3 = .ok (.iload_n 1, 1) := by decide +kernel
theorem dX0_passHours_4 : decode cX0_passHours 4 = .ok (.if_icmp .ge 66, 3) := by decide +kernel
theorem dX0_passHours_7 : decode cX0_passHours 7 = .ok (.iconst 0, 1) := by decide +kernel
theorem dX0_passHours_8 : decode cX0_passHours 8 = .ok (.istore 4, 2) := by decide +kernel
theorem dX0_passHours_10 : decode cX0_passHours 10 = .ok (.iload 4, 2) := by decide +kernel
theorem dX0_passHours_12 : decode cX0_passHours 12 = .ok (.aload_n 0, 1) := by decide +kernel
theorem dX0_passHours_13 : decode cX0_passHours 13 = .ok (.getfield 26, 3) := by decide +kernel
theorem dX0_passHours_16 : decode cX0_passHours 16 = .ok (.if_icmp .ge 25, 3) := by decide +kernel
theorem dX0_passHours_19 : decode cX0_passHours 19 = .ok (.iload_n 2, 1) := by decide +kernel
theorem dX0_passHours_20 : decode cX0_passHours 20 = .ok (.iload 4, 2) := by decide +kernel
theorem dX0_passHours_22 : decode cX0_passHours 22 = .ok (.ishr, 1) := by decide +kernel
theorem dX0_passHours_23 : decode cX0_passHours 23 = .ok (.iconst 1, 1) := by decide +kernel
theorem dX0_passHours_24 : decode cX0_passHours 24 = .ok (.iand, 1) := by decide +kernel
theorem dX0_passHours_25 : decode cX0_passHours 25 = .ok (.iconst 1, 1) := by decide +kernel
theorem dX0_passHours_26 : decode cX0_passHours 26 = .ok (.if_icmp .ne 9, 3) := by decide +kernel
theorem dX0_passHours_29 : decode cX0_passHours 29 = .ok (.aload_n 0, 1) := by decide +kernel
theorem dX0_passHours_30 : decode cX0_passHours 30 = .ok (.iload 4, 2) := by decide +kernel
theorem dX0_passHours_32 : decode cX0_passHours 32 = .ok (.invokevirtual 54, 3) := by decide +kernel
theorem dX0_passHours_35 : decode cX0_passHours 35 = .ok (.iinc 4 1, 3) := by decide +kernel
theorem dX0_passHours_38 : decode cX0_passHours 38 = .ok (.goto (-28), 3) := by decide +kernel
theorem dX0_passHours_41 : decode cX0_passHours 41 = .ok (.aload_n 0, 1) := by decide +kernel
theorem dX0_passHours_42 : decode cX0_passHours 42 = .ok (.invokevirtual 58, 3) := by decide +kernel
theorem dX0_passHours_45 : decode cX0_passHours 45 = .ok (.aload_n 0, 1) := by decide +kernel
theorem dX0_passHours_46 : decode cX0_passHours 46 = .ok (.invokevirtual 61, 3) := by decide +kernel
theorem dX0_passHours_49 : decode cX0_passHours 49 = .ok (.aload_n 0, 1) := by decide +kernel
theorem dX0_passHours_50 : decode cX0_passHours 50 = .ok (.aload_n 0, 1) := by decide +kernel
theorem dX0_passHours_51 : decode cX0_passHours 51 = .ok (.getfield 33, 3) := by decide +kernel
theorem dX0_passHours_54 : decode cX0_passHours 54 = .ok (.iconst 1, 1) := by decide +kernel
theorem dX0_passHours_55 : decode cX0_passHours 55 = .ok (.iadd, 1) := by decide +kernel
theorem dX0_passHours_56 : decode cX0_passHours 56 = .ok (.ldc 64, 2) := by decide +kernel
theorem dX0_passHours_58 : decode cX0_passHours 58 = .ok (.invokestatic 45, 3) := by decide +kernel
theorem dX0_passHours_61 : decode cX0_passHours 61 = .ok (.putfield 33, 3) := by decide +kernel
theorem dX0_passHours_64 : decode cX0_passHours 64 = .ok (.iinc 3 1, 3) := by decide +kernel
theorem dX0_passHours_67 : decode cX0_passHours 67 = .ok (.goto (-65), 3) := by decide +kernel
theorem dX0_passHours_70 : decode cX0_passHours 70 = .ok (.return_, 1) := by decide +kernel
theorem dX0_letGo_0 : decode cX0_letGo 0 = .ok (.aload_n 0, 1) := by decide +kernel
theorem dX0_letGo_1 : decode cX0_letGo 1 = .ok (.iload_n 1, 1) := by decide +kernel
theorem dX0_letGo_2 : decode cX0_letGo 2 = .ok (.invokevirtual 65, 3) := by decide +kernel
theorem dX0_letGo_5 : decode cX0_letGo 5 = .ok (.istore_n 2, 1) := by decide +kernel
theorem dX0_letGo_6 : decode cX0_letGo 6 = .ok (.iconst 0, 1) := by decide +kernel
theorem dX0_letGo_7 : decode cX0_letGo 7 = .ok (.istore_n 3, 1) := by decide +kernel
theorem dX0_letGo_8 : decode cX0_letGo 8 = .ok (.iload_n 3, 1) := by decide +kernel
theorem dX0_letGo_9 : decode cX0_letGo 9 = .ok (.iload_n 2, 1) := by decide +kernel
theorem dX0_letGo_10 : decode cX0_letGo 10 = .ok (.if_icmp .ge 14, 3) := by decide +kernel
theorem dX0_letGo_13 : decode cX0_letGo 13 = .ok (.aload_n 0, 1) := by decide +kernel
theorem dX0_letGo_14 : decode cX0_letGo 14 = .ok (.iload_n 1, 1) := by decide +kernel
theorem dX0_letGo_15 : decode cX0_letGo 15 = .ok (.invokevirtual 69, 3) := by decide +kernel
theorem dX0_letGo_18 : decode cX0_letGo 18 = .ok (.iinc 3 1, 3) := by decide +kernel
theorem dX0_letGo_21 : decode cX0_letGo 21 = .ok (.goto (-13), 3) := by decide +kernel
theorem dX0_letGo_24 : decode cX0_letGo 24 = .ok (.return_, 1) := by decide +kernel
theorem dX0_passOrTurn_0 : decode cX0_passOrTurn 0 = .ok (.aload_n 0, 1) := by decide +kernel
theorem dX0_passOrTurn_1 : decode cX0_passOrTurn 1 = .ok (.getfield 20, 3) := by decide +kernel
theorem dX0_passOrTurn_4 : decode cX0_passOrTurn 4 = .ok (.iconst 2, 1) := by decide +kernel
theorem dX0_passOrTurn_5 : decode cX0_passOrTurn 5 = .ok (.aaload, 1) := by decide +kernel
theorem dX0_passOrTurn_6 : decode cX0_passOrTurn 6 = .ok (.iload_n 1, 1) := by decide +kernel
theorem dX0_passOrTurn_7 : decode cX0_passOrTurn 7 = .ok (.iaload, 1) := by decide +kernel
theorem dX0_passOrTurn_8 : decode cX0_passOrTurn 8 = .ok (.ifCond .ne 7, 3) := by decide +kernel
theorem dX0_passOrTurn_11 : decode cX0_passOrTurn 11 = .ok (.iconst 1, 1) := by decide +kernel
theorem dX0_passOrTurn_12 : decode cX0_passOrTurn 12 = .ok (.goto 4, 3) := by decide +kernel
theorem dX0_passOrTurn_15 : decode cX0_passOrTurn 15 = .ok (.iconst 0, 1) := by decide +kernel
theorem dX0_passOrTurn_16 : decode cX0_passOrTurn 16 = .ok (.istore_n 2, 1) := by decide +kernel
theorem dX0_passOrTurn_17 : decode cX0_passOrTurn 17 = .ok (.iload_n 2, 1) := by decide +kernel
theorem dX0_passOrTurn_18 : decode cX0_passOrTurn 18 = .ok (.ifCond .eq 14, 3) := by decide +kernel
theorem dX0_passOrTurn_21 : decode cX0_passOrTurn 21 = .ok (.aload_n 0, 1) := by decide +kernel
theorem dX0_passOrTurn_22 : decode cX0_passOrTurn 22 = .ok (.getfield 20, 3) := by decide +kernel
theorem dX0_passOrTurn_25 : decode cX0_passOrTurn 25 = .ok (.iconst 1, 1) := by decide +kernel
theorem dX0_passOrTurn_26 : decode cX0_passOrTurn 26 = .ok (.aaload, 1) := by decide +kernel
theorem dX0_passOrTurn_27 : decode cX0_passOrTurn 27 = .ok (.iload_n 1, 1) := by decide +kernel
theorem dX0_passOrTurn_28 : decode cX0_passOrTurn 28 = .ok (.iaload, 1) := by decide +kernel
theorem dX0_passOrTurn_29 : decode cX0_passOrTurn 29 = .ok (.goto 13, 3) := by decide +kernel
theorem dX0_passOrTurn_32 : decode cX0_passOrTurn 32 = .ok (.aload_n 0, 1) := by decide +kernel
theorem dX0_passOrTurn_33 : decode cX0_passOrTurn 33 = .ok (.getfield 20, 3) := by decide +kernel
theorem dX0_passOrTurn_36 : decode cX0_passOrTurn 36 = .ok (.iconst 1, 1) := by decide +kernel
theorem dX0_passOrTurn_37 : decode cX0_passOrTurn 37 = .ok (.aaload, 1) := by decide +kernel
theorem dX0_passOrTurn_38 : decode cX0_passOrTurn 38 = .ok (.iload_n 1, 1) := by decide +kernel
theorem dX0_passOrTurn_39 : decode cX0_passOrTurn 39 = .ok (.iaload, 1) := by decide +kernel
theorem dX0_passOrTurn_40 : decode cX0_passOrTurn 40 = .ok (.iconst 1, 1) := by decide +kernel
theorem dX0_passOrTurn_41 : decode cX0_passOrTurn 41 = .ok (.isub, 1) := by decide +kernel
theorem dX0_passOrTurn_42 : decode cX0_passOrTurn 42 = .ok (.istore_n 3, 1) := by decide +kernel
theorem dX0_passOrTurn_43 : decode cX0_passOrTurn 43 = .ok (.iload_n 3, 1) := by decide +kernel
theorem dX0_passOrTurn_44 : decode cX0_passOrTurn 44 = .ok (.ifCond .lt 9, 3) := by decide +kernel
theorem dX0_passOrTurn_47 : decode cX0_passOrTurn 47 = .ok (.iload_n 3, 1) := by decide +kernel
theorem dX0_passOrTurn_48 : decode cX0_passOrTurn 48 = .ok (.bipush 8, 2) := by decide +kernel
theorem dX0_passOrTurn_50 : decode cX0_passOrTurn 50 = .ok (.if_icmp .lt 22, 3) := by decide +kernel
theorem dX0_passOrTurn_53 : decode cX0_passOrTurn 53 = .ok (.aload_n 0, 1) := by decide +kernel
theorem dX0_passOrTurn_54 : decode cX0_passOrTurn 54 = .ok (.getfield 20, 3) := by decide +kernel
theorem dX0_passOrTurn_57 : decode cX0_passOrTurn 57 = .ok (.iconst 2, 1) := by decide +kernel
theorem dX0_passOrTurn_58 : decode cX0_passOrTurn 58 = .ok (.aaload, 1) := by decide +kernel
theorem dX0_passOrTurn_59 : decode cX0_passOrTurn 59 = .ok (.iload_n 1, 1) := by decide +kernel
theorem dX0_passOrTurn_60 : decode cX0_passOrTurn 60 = .ok (.iconst 1, 1) := by decide +kernel
theorem dX0_passOrTurn_61 : decode cX0_passOrTurn 61 = .ok (.aload_n 0, 1) := by decide +kernel
theorem dX0_passOrTurn_62 : decode cX0_passOrTurn 62 = .ok (.getfield 20, 3) := by decide +kernel
theorem dX0_passOrTurn_65 : decode cX0_passOrTurn 65 = .ok (.iconst 2, 1) := by decide +kernel
theorem dX0_passOrTurn_66 : decode cX0_passOrTurn 66 = .ok (.aaload, 1) := by decide +kernel
theorem dX0_passOrTurn_67 : decode cX0_passOrTurn 67 = .ok (.iload_n 1, 1) := by decide +kernel
theorem dX0_passOrTurn_68 : decode cX0_passOrTurn 68 = .ok (.iaload, 1) := by decide +kernel
theorem dX0_passOrTurn_69 : decode cX0_passOrTurn 69 = .ok (.isub, 1) := by decide +kernel
theorem dX0_passOrTurn_70 : decode cX0_passOrTurn 70 = .ok (.iastore, 1) := by decide +kernel
theorem dX0_passOrTurn_71 : decode cX0_passOrTurn 71 = .ok (.return_, 1) := by decide +kernel
theorem dX0_passOrTurn_72 : decode cX0_passOrTurn 72 = .ok (.aload_n 0, 1) := by decide +kernel
theorem dX0_passOrTurn_73 : decode cX0_passOrTurn 73 = .ok (.getfield 15, 3) := by decide +kernel
theorem dX0_passOrTurn_76 : decode cX0_passOrTurn 76 = .ok (.iload_n 3, 1) := by decide +kernel
theorem dX0_passOrTurn_77 : decode cX0_passOrTurn 77 = .ok (.iaload, 1) := by decide +kernel
theorem dX0_passOrTurn_78 : decode cX0_passOrTurn 78 = .ok (.istore 4, 2) := by decide +kernel
theorem dX0_passOrTurn_80 : decode cX0_passOrTurn 80 = .ok (.aload_n 0, 1) := by decide +kernel
theorem dX0_passOrTurn_81 : decode cX0_passOrTurn 81 = .ok (.getfield 15, 3) := by decide +kernel
theorem dX0_passOrTurn_84 : decode cX0_passOrTurn 84 = .ok (.iload_n 3, 1) := by decide +kernel
theorem dX0_passOrTurn_85 : decode cX0_passOrTurn 85 = .ok (.aload_n 0, 1) := by decide +kernel
theorem dX0_passOrTurn_86 : decode cX0_passOrTurn 86 = .ok (.iload_n 1, 1) := by decide +kernel
theorem dX0_passOrTurn_87 : decode cX0_passOrTurn 87 = .ok (.iload 4, 2) := by decide +kernel
theorem dX0_passOrTurn_89 : decode cX0_passOrTurn 89 = .ok (.invokevirtual 72, 3) := by decide +kernel
theorem dX0_passOrTurn_92 : decode cX0_passOrTurn 92 = .ok (.iastore, 1) := by decide +kernel
theorem dX0_passOrTurn_93 : decode cX0_passOrTurn 93 = .ok (.aload_n 0, 1) := by decide +kernel
theorem dX0_passOrTurn_94 : decode cX0_passOrTurn 94 = .ok (.getfield 20, 3) := by decide +kernel
theorem dX0_passOrTurn_97 : decode cX0_passOrTurn 97 = .ok (.iconst 3, 1) := by decide +kernel
theorem dX0_passOrTurn_98 : decode cX0_passOrTurn 98 = .ok (.aaload, 1) := by decide +kernel
theorem dX0_passOrTurn_99 : decode cX0_passOrTurn 99 = .ok (.iload_n 1, 1) := by decide +kernel
theorem dX0_passOrTurn_100 : decode cX0_passOrTurn 100 = .ok (.aload_n 0, 1) := by decide +kernel
theorem dX0_passOrTurn_101 : decode cX0_passOrTurn 101 = .ok (.iload_n 1, 1) := by decide +kernel
theorem dX0_passOrTurn_102 : decode cX0_passOrTurn 102 = .ok (.iload 4, 2) := by decide +kernel
theorem dX0_passOrTurn_104 : decode cX0_passOrTurn 104 = .ok (.invokevirtual 75, 3) := by decide +kernel
theorem dX0_passOrTurn_107 : decode cX0_passOrTurn 107 = .ok (.iastore, 1) := by decide +kernel
theorem dX0_passOrTurn_108 : decode cX0_passOrTurn 108 = .ok (.aload_n 0, 1) := by decide +kernel
theorem dX0_passOrTurn_109 : decode cX0_passOrTurn 109 = .ok (.getfield 20, 3) := by decide +kernel
theorem dX0_passOrTurn_112 : decode cX0_passOrTurn 112 = .ok (.iconst 1, 1) := by decide +kernel
theorem dX0_passOrTurn_113 : decode cX0_passOrTurn 113 = .ok (.aaload, 1) := by decide +kernel
theorem dX0_passOrTurn_114 : decode cX0_passOrTurn 114 = .ok (.iload_n 1, 1) := by decide +kernel
theorem dX0_passOrTurn_115 : decode cX0_passOrTurn 115 = .ok (.iload_n 2, 1) := by decide +kernel
theorem dX0_passOrTurn_116 : decode cX0_passOrTurn 116 = .ok (.ifCond .eq 9, 3) := by decide +kernel
theorem dX0_passOrTurn_119 : decode cX0_passOrTurn 119 = .ok (.iload_n 3, 1) := by decide +kernel
theorem dX0_passOrTurn_120 : decode cX0_passOrTurn 120 = .ok (.iconst 1, 1) := by decide +kernel
theorem dX0_passOrTurn_121 : decode cX0_passOrTurn 121 = .ok (.iadd, 1) := by decide +kernel
theorem dX0_passOrTurn_122 : decode cX0_passOrTurn 122 = .ok (.goto 4, 3) := by decide +kernel
theorem dX0_passOrTurn_125 : decode cX0_passOrTurn 125 = .ok (.iload_n 3, 1) := by decide +kernel
theorem dX0_passOrTurn_126 : decode cX0_passOrTurn 126 = .ok (.iastore, 1) := by decide +kernel
theorem dX0_passOrTurn_127 : decode cX0_passOrTurn 127 = .ok (.aload_n 0, 1) := by decide +kernel
theorem dX0_passOrTurn_128 : decode cX0_passOrTurn 128 = .ok (.getfield 20, 3) := by decide +kernel
theorem dX0_passOrTurn_131 : decode cX0_passOrTurn 131 = .ok (.iconst 4, 1) := by decide +kernel
theorem dX0_passOrTurn_132 : decode cX0_passOrTurn 132 = .ok (.aaload, 1) := by decide +kernel
theorem dX0_passOrTurn_133 : decode cX0_passOrTurn 133 = .ok (.iload_n 1, 1) := by decide +kernel
theorem dX0_passOrTurn_134 : decode cX0_passOrTurn 134 = .ok (.aload_n 0, 1) := by decide +kernel
theorem dX0_passOrTurn_135 : decode cX0_passOrTurn 135 = .ok (.getfield 20, 3) := by decide +kernel
theorem dX0_passOrTurn_138 : decode cX0_passOrTurn 138 = .ok (.iconst 4, 1) := by decide +kernel
theorem dX0_passOrTurn_139 : decode cX0_passOrTurn 139 = .ok (.aaload, 1) := by decide +kernel
theorem dX0_passOrTurn_140 : decode cX0_passOrTurn 140 = .ok (.iload_n 1, 1) := by decide +kernel
theorem dX0_passOrTurn_141 : decode cX0_passOrTurn 141 = .ok (.iaload, 1) := by decide +kernel
theorem dX0_passOrTurn_142 : decode cX0_passOrTurn 142 = .ok (.iconst 1, 1) := by decide +kernel
theorem dX0_passOrTurn_143 : decode cX0_passOrTurn 143 = .ok (.iadd, 1) := by decide +kernel
theorem dX0_passOrTurn_144 : decode cX0_passOrTurn 144 = .ok (.sipush 9999, 3) := by decide +kernel
theorem dX0_passOrTurn_147 : decode cX0_passOrTurn 147 = .ok (.invokestatic 45, 3) := by decide +kernel
theorem dX0_passOrTurn_150 : decode cX0_passOrTurn 150 = .ok (.iastore, 1) := by decide +kernel
theorem dX0_passOrTurn_151 : decode cX0_passOrTurn 151 = .ok (.return_, 1) := by decide +kernel
theorem dX0_moveBeasts_0 : decode cX0_moveBeasts 0 = .ok (.aload_n 0, 1) := by decide +kernel
theorem dX0_moveBeasts_1 : decode cX0_moveBeasts 1 = .ok (.getfield 9, 3) := by decide +kernel
theorem dX0_moveBeasts_4 : decode cX0_moveBeasts 4 = .ok (.iconst 0, 1) := by decide +kernel
theorem dX0_moveBeasts_5 : decode cX0_moveBeasts 5 = .ok (.iaload, 1) := by decide +kernel
theorem dX0_moveBeasts_6 : decode cX0_moveBeasts 6 = .ok (.istore_n 1, 1) := by decide +kernel
theorem dX0_moveBeasts_7 : decode cX0_moveBeasts 7 = .ok (.iconst 0, 1) := by decide +kernel
theorem dX0_moveBeasts_8 : decode cX0_moveBeasts 8 = .ok (.istore_n 2, 1) := by decide +kernel
theorem dX0_moveBeasts_9 : decode cX0_moveBeasts 9 = .ok (.iload_n 2, 1) := by decide +kernel
theorem dX0_moveBeasts_10 : decode cX0_moveBeasts 10 = .ok (.bipush 8, 2) := by decide +kernel
theorem dX0_moveBeasts_12 : decode cX0_moveBeasts 12 = .ok (.if_icmp .ge 58, 3) := by decide +kernel
theorem dX0_moveBeasts_15 : decode cX0_moveBeasts 15 = .ok (.aload_n 0, 1) := by decide +kernel
theorem dX0_moveBeasts_16 : decode cX0_moveBeasts 16 = .ok (.getfield 9, 3) := by decide +kernel
theorem dX0_moveBeasts_19 : decode cX0_moveBeasts 19 = .ok (.iload_n 2, 1) := by decide +kernel
theorem dX0_moveBeasts_20 : decode cX0_moveBeasts 20 = .ok (.iconst 1, 1) := by decide +kernel
theorem dX0_moveBeasts_21 : decode cX0_moveBeasts 21 = .ok (.iadd, 1) := by decide +kernel
theorem dX0_moveBeasts_22 : decode cX0_moveBeasts 22 = .ok (.iaload, 1) := by decide +kernel
theorem dX0_moveBeasts_23 : decode cX0_moveBeasts 23 = .ok (.istore_n 3, 1) := by decide +kernel
theorem dX0_moveBeasts_24 : decode cX0_moveBeasts 24 = .ok (.aload_n 0, 1) := by decide +kernel
theorem dX0_moveBeasts_25 : decode cX0_moveBeasts 25 = .ok (.getfield 15, 3) := by decide +kernel
theorem dX0_moveBeasts_28 : decode cX0_moveBeasts 28 = .ok (.iload_n 2, 1) := by decide +kernel
theorem dX0_moveBeasts_29 : decode cX0_moveBeasts 29 = .ok (.iaload, 1) := by decide +kernel
theorem dX0_moveBeasts_30 : decode cX0_moveBeasts 30 = .ok (.iload_n 1, 1) := by decide +kernel
theorem dX0_moveBeasts_31 : decode cX0_moveBeasts 31 = .ok (.iload_n 3, 1) := by decide +kernel
theorem dX0_moveBeasts_32 : decode cX0_moveBeasts 32 = .ok (.isub, 1) := by decide +kernel
theorem dX0_moveBeasts_33 : decode cX0_moveBeasts 33 = .ok (.invokestatic 78, 3) := by decide +kernel
theorem dX0_moveBeasts_36 : decode cX0_moveBeasts 36 = .ok (.istore 4, 2) := by decide +kernel
theorem dX0_moveBeasts_38 : decode cX0_moveBeasts 38 = .ok (.aload_n 0, 1) := by decide +kernel
theorem dX0_moveBeasts_39 : decode cX0_moveBeasts 39 = .ok (.getfield 9, 3) := by decide +kernel
theorem dX0_moveBeasts_42 : decode cX0_moveBeasts 42 = .ok (.iload_n 2, 1) := by decide +kernel
theorem dX0_moveBeasts_43 : decode cX0_moveBeasts 43 = .ok (.dup2, 1) := by decide +kernel
theorem dX0_moveBeasts_44 : decode cX0_moveBeasts 44 = .ok (.iaload, 1) := by decide +kernel
theorem dX0_moveBeasts_45 : decode cX0_moveBeasts 45 = .ok (.iload 4, 2) := by decide +kernel
theorem dX0_moveBeasts_47 : decode cX0_moveBeasts 47 = .ok (.isub, 1) := by decide +kernel
theorem dX0_moveBeasts_48 : decode cX0_moveBeasts 48 = .ok (.iastore, 1) := by decide +kernel
theorem dX0_moveBeasts_49 : decode cX0_moveBeasts 49 = .ok (.aload_n 0, 1) := by decide +kernel
theorem dX0_moveBeasts_50 : decode cX0_moveBeasts 50 = .ok (.getfield 9, 3) := by decide +kernel
theorem dX0_moveBeasts_53 : decode cX0_moveBeasts 53 = .ok (.iload_n 2, 1) := by decide +kernel
theorem dX0_moveBeasts_54 : decode cX0_moveBeasts 54 = .ok (.iconst 1, 1) := by decide +kernel
theorem dX0_moveBeasts_55 : decode cX0_moveBeasts 55 = .ok (.iadd, 1) := by decide +kernel
theorem dX0_moveBeasts_56 : decode cX0_moveBeasts 56 = .ok (.dup2, 1) := by decide +kernel
theorem dX0_moveBeasts_57 : decode cX0_moveBeasts 57 = .ok (.iaload, 1) := by decide +kernel
theorem dX0_moveBeasts_58 : decode cX0_moveBeasts 58 = .ok (.iload 4, 2) := by decide +kernel
theorem dX0_moveBeasts_60 : decode cX0_moveBeasts 60 = .ok (.iadd, 1) := by decide +kernel
theorem dX0_moveBeasts_61 : decode cX0_moveBeasts 61 = .ok (.iastore, 1) := by decide +kernel
theorem dX0_moveBeasts_62 : decode cX0_moveBeasts 62 = .ok (.iload_n 3, 1) := by decide +kernel
theorem dX0_moveBeasts_63 : decode cX0_moveBeasts 63 = .ok (.istore_n 1, 1) := by decide +kernel
theorem dX0_moveBeasts_64 : decode cX0_moveBeasts 64 = .ok (.iinc 2 1, 3) := by decide +kernel
theorem dX0_moveBeasts_67 : decode cX0_moveBeasts 67 = .ok (.goto (-58), 3) := by decide +kernel
theorem dX0_moveBeasts_70 : decode cX0_moveBeasts 70 = .ok (.return_, 1) := by decide +kernel
theorem dX0_through_0 : decode cX0_through 0 = .ok (.iload_n 0, 1) := by decide +kernel
theorem dX0_through_1 : decode cX0_through 1 = .ok (.ifCond .ne 5, 3) := by decide +kernel
theorem dX0_through_4 : decode cX0_through 4 = .ok (.iconst 0, 1) := by decide +kernel
theorem dX0_through_5 : decode cX0_through 5 = .ok (.ireturn, 1) := by decide +kernel
theorem dX0_through_6 : decode cX0_through 6 = .ok (.iload_n 0, 1) := by decide +kernel
theorem dX0_through_7 : decode cX0_through 7 = .ok (.iconst 1, 1) := by decide +kernel
theorem dX0_through_8 : decode cX0_through 8 = .ok (.if_icmp .ne 10, 3) := by decide +kernel
theorem dX0_through_11 : decode cX0_through 11 = .ok (.iload_n 1, 1) := by decide +kernel
theorem dX0_through_12 : decode cX0_through 12 = .ok (.bipush 16, 2) := by decide +kernel
theorem dX0_through_14 : decode cX0_through 14 = .ok (.idiv, 1) := by decide +kernel
theorem dX0_through_15 : decode cX0_through 15 = .ok (.goto 6, 3) := by decide +kernel
theorem dX0_through_18 : decode cX0_through 18 = .ok (.iload_n 1, 1) := by decide +kernel
theorem dX0_through_19 : decode cX0_through 19 = .ok (.iconst 4, 1) := by decide +kernel
theorem dX0_through_20 : decode cX0_through 20 = .ok (.idiv, 1) := by decide +kernel
theorem dX0_through_21 : decode cX0_through 21 = .ok (.ireturn, 1) := by decide +kernel
theorem dX0_blowShut_0 : decode cX0_blowShut 0 = .ok (.iconst 0, 1) := by decide +kernel
theorem dX0_blowShut_1 : decode cX0_blowShut 1 = .ok (.istore_n 1, 1) := by decide +kernel
theorem dX0_blowShut_2 : decode cX0_blowShut 2 = .ok (.iload_n 1, 1) := by decide +kernel
theorem dX0_blowShut_3 : decode cX0_blowShut 3 = .ok (.bipush 8, 2) := by decide +kernel
theorem dX0_blowShut_5 : decode cX0_blowShut 5 = .ok (.if_icmp .ge 35, 3) := by decide +kernel
theorem dX0_blowShut_8 : decode cX0_blowShut 8 = .ok (.aload_n 0, 1) := by decide +kernel
theorem dX0_blowShut_9 : decode cX0_blowShut 9 = .ok (.getfield 30, 3) := by decide +kernel
theorem dX0_blowShut_12 : decode cX0_blowShut 12 = .ok (.bipush 7, 2) := by decide +kernel
theorem dX0_blowShut_14 : decode cX0_blowShut 14 = .ok (.if_icmp .lt 20, 3) := by decide +kernel
theorem dX0_blowShut_17 : decode cX0_blowShut 17 = .ok (.aload_n 0, 1) := by decide +kernel
theorem dX0_blowShut_18 : decode cX0_blowShut 18 = .ok (.getfield 15, 3) := by decide +kernel
theorem dX0_blowShut_21 : decode cX0_blowShut 21 = .ok (.iload_n 1, 1) := by decide +kernel
theorem dX0_blowShut_22 : decode cX0_blowShut 22 = .ok (.iaload, 1) := by decide +kernel
theorem dX0_blowShut_23 : decode cX0_blowShut 23 = .ok (.iconst 3, 1) := by decide +kernel
theorem dX0_blowShut_24 : decode cX0_blowShut 24 = .ok (.if_icmp .eq 10, 3) := by decide +kernel
theorem dX0_blowShut_27 : decode cX0_blowShut 27 = .ok (.aload_n 0, 1) := by decide +kernel
theorem dX0_blowShut_28 : decode cX0_blowShut 28 = .ok (.getfield 15, 3) := by decide +kernel
theorem dX0_blowShut_31 : decode cX0_blowShut 31 = .ok (.iload_n 1, 1) := by decide +kernel
theorem dX0_blowShut_32 : decode cX0_blowShut 32 = .ok (.iconst 0, 1) := by decide +kernel
theorem dX0_blowShut_33 : decode cX0_blowShut 33 = .ok (.iastore, 1) := by decide +kernel
theorem dX0_blowShut_34 : decode cX0_blowShut 34 = .ok (.iinc 1 1, 3) := by decide +kernel
theorem dX0_blowShut_37 : decode cX0_blowShut 37 = .ok (.goto (-35), 3) := by decide +kernel
theorem dX0_blowShut_40 : decode cX0_blowShut 40 = .ok (.return_, 1) := by decide +kernel
theorem dX0_draw_0 : decode cX0_draw 0 = .ok (.aload_n 0, 1) := by decide +kernel
theorem dX0_draw_1 : decode cX0_draw 1 = .ok (.aload_n 0, 1) := by decide +kernel
theorem dX0_draw_2 : decode cX0_draw 2 = .ok (.getfield 36, 3) := by decide +kernel
theorem dX0_draw_5 : decode cX0_draw 5 = .ok (.ldc 81, 2) := by decide +kernel
theorem dX0_draw_7 : decode cX0_draw 7 = .ok (.imul, 1) := by decide +kernel
theorem dX0_draw_8 : decode cX0_draw 8 = .ok (.sipush 12345, 3) := by decide +kernel
theorem dX0_draw_11 : decode cX0_draw 11 = .ok (.iadd, 1) := by decide +kernel
theorem dX0_draw_12 : decode cX0_draw 12 = .ok (.putfield 36, 3) := by decide +kernel
theorem dX0_draw_15 : decode cX0_draw 15 = .ok (.aload_n 0, 1) := by decide +kernel
theorem dX0_draw_16 : decode cX0_draw 16 = .ok (.getfield 36, 3) := by decide +kernel
theorem dX0_draw_19 : decode cX0_draw 19 = .ok (.bipush 8, 2) := by decide +kernel
theorem dX0_draw_21 : decode cX0_draw 21 = .ok (.iushr, 1) := by decide +kernel
theorem dX0_draw_22 : decode cX0_draw 22 = .ok (.ireturn, 1) := by decide +kernel
theorem dX0_standsAsTold_0 : decode cX0_standsAsTold 0 = .ok (.iconst 0, 1) := by decide +kernel
theorem dX0_standsAsTold_1 : decode cX0_standsAsTold 1 = .ok (.istore_n 2, 1) := by decide +kernel
theorem dX0_standsAsTold_2 : decode cX0_standsAsTold 2 = .ok (.iload_n 2, 1) := by decide +kernel
theorem dX0_standsAsTold_3 : decode cX0_standsAsTold 3 = .ok (.aload_n 1, 1) := by decide +kernel
theorem dX0_standsAsTold_4 : decode cX0_standsAsTold 4 = .ok (.getfield 82, 3) := by decide +kernel
theorem dX0_standsAsTold_7 : decode cX0_standsAsTold 7 = .ok (.if_icmp .ge 42, 3) := by decide +kernel
theorem dX0_standsAsTold_10 : decode cX0_standsAsTold 10 = .ok (.iload_n 2, 1) := by decide +kernel
theorem dX0_standsAsTold_11 : decode cX0_standsAsTold 11 = .ok (.bipush 8, 2) := by decide +kernel
theorem dX0_standsAsTold_13 : decode cX0_standsAsTold 13 = .ok (.if_icmp .ge 36, 3) := by decide +kernel
theorem dX0_standsAsTold_16 : decode cX0_standsAsTold 16 = .ok (.aload_n 1, 1) := by decide +kernel
theorem dX0_standsAsTold_17 : decode cX0_standsAsTold 17 = .ok (.getfield 87, 3) := by decide +kernel
theorem dX0_standsAsTold_20 : decode cX0_standsAsTold 20 = .ok (.iload_n 2, 1) := by decide +kernel
theorem dX0_standsAsTold_21 : decode cX0_standsAsTold 21 = .ok (.iaload, 1) := by decide +kernel
theorem dX0_standsAsTold_22 : decode cX0_standsAsTold 22 = .ok (.iconst (-1), 1) := by decide +kernel
theorem dX0_standsAsTold_23 : decode cX0_standsAsTold 23 = .ok (.if_icmp .eq 20, 3) := by decide +kernel
theorem dX0_standsAsTold_26 : decode cX0_standsAsTold 26 = .ok (.aload_n 1, 1) := by decide +kernel
theorem dX0_standsAsTold_27 : decode cX0_standsAsTold 27 = .ok (.getfield 87, 3) := by decide +kernel
theorem dX0_standsAsTold_30 : decode cX0_standsAsTold 30 = .ok (.iload_n 2, 1) := by decide +kernel
theorem dX0_standsAsTold_31 : decode cX0_standsAsTold 31 = .ok (.iaload, 1) := by decide +kernel
theorem dX0_standsAsTold_32 : decode cX0_standsAsTold 32 = .ok (.aload_n 0, 1) := by decide +kernel
theorem dX0_standsAsTold_33 : decode cX0_standsAsTold 33 = .ok (.getfield 15, 3) := by decide +kernel
theorem dX0_standsAsTold_36 : decode cX0_standsAsTold 36 = .ok (.iload_n 2, 1) := by decide +kernel
theorem dX0_standsAsTold_37 : decode cX0_standsAsTold 37 = .ok (.iaload, 1) := by decide +kernel
theorem dX0_standsAsTold_38 : decode cX0_standsAsTold 38 = .ok (.if_icmp .eq 5, 3) := by decide +kernel
theorem dX0_standsAsTold_41 : decode cX0_standsAsTold 41 = .ok (.iconst 0, 1) := by decide +kernel
theorem dX0_standsAsTold_42 : decode cX0_standsAsTold 42 = .ok (.ireturn, 1) := by decide +kernel
theorem dX0_standsAsTold_43 : decode cX0_standsAsTold 43 = .ok (.iinc 2 1, 3) := by decide +kernel
theorem dX0_standsAsTold_46 : decode cX0_standsAsTold 46 = .ok (.goto (-44), 3) := by decide +kernel
theorem dX0_standsAsTold_49 : decode cX0_standsAsTold 49 = .ok (.iconst 1, 1) := by decide +kernel
theorem dX0_standsAsTold_50 : decode cX0_standsAsTold 50 = .ok (.ireturn, 1) := by decide +kernel
theorem dX0_walkersIn_0 : decode cX0_walkersIn 0 = .ok (.iconst 0, 1) := by decide +kernel
theorem dX0_walkersIn_1 : decode cX0_walkersIn 1 = .ok (.istore_n 2, 1) := by decide +kernel
theorem dX0_walkersIn_2 : decode cX0_walkersIn 2 = .ok (.iconst 0, 1) := by decide +kernel
theorem dX0_walkersIn_3 : decode cX0_walkersIn 3 = .ok (.istore_n 3, 1) := by decide +kernel
theorem dX0_walkersIn_4 : decode cX0_walkersIn 4 = .ok (.iload_n 3, 1) := by decide +kernel
theorem dX0_walkersIn_5 : decode cX0_walkersIn 5 = .ok (.aload_n 0, 1) := by decide +kernel
theorem dX0_walkersIn_6 : decode cX0_walkersIn 6 = .ok (.getfield 26, 3) := by decide +kernel
theorem dX0_walkersIn_9 : decode cX0_walkersIn 9 = .ok (.if_icmp .ge 27, 3) := by decide +kernel
theorem dX0_walkersIn_12 : decode cX0_walkersIn 12 = .ok (.aload_n 0, 1) := by decide +kernel
theorem dX0_walkersIn_13 : decode cX0_walkersIn 13 = .ok (.getfield 20, 3) := by decide +kernel
theorem dX0_walkersIn_16 : decode cX0_walkersIn 16 = .ok (.iconst 1, 1) := by decide +kernel
theorem dX0_walkersIn_17 : decode cX0_walkersIn 17 = .ok (.aaload, 1) := by decide +kernel
theorem dX0_walkersIn_18 : decode cX0_walkersIn 18 = .ok (.iload_n 3, 1) := by decide +kernel
theorem dX0_walkersIn_19 : decode cX0_walkersIn 19 = .ok (.iaload, 1) := by decide +kernel
theorem dX0_walkersIn_20 : decode cX0_walkersIn 20 = .ok (.iload_n 1, 1) := by decide +kernel
theorem dX0_walkersIn_21 : decode cX0_walkersIn 21 = .ok (.if_icmp .ne 9, 3) := by decide +kernel
theorem dX0_walkersIn_24 : decode cX0_walkersIn 24 = .ok (.iload_n 2, 1) := by decide +kernel
theorem dX0_walkersIn_25 : decode cX0_walkersIn 25 = .ok (.iconst 1, 1) := by decide +kernel
theorem dX0_walkersIn_26 : decode cX0_walkersIn 26 = .ok (.iload_n 3, 1) := by decide +kernel
theorem dX0_walkersIn_27 : decode cX0_walkersIn 27 = .ok (.ishl, 1) := by decide +kernel
theorem dX0_walkersIn_28 : decode cX0_walkersIn 28 = .ok (.ior, 1) := by decide +kernel
theorem dX0_walkersIn_29 : decode cX0_walkersIn 29 = .ok (.istore_n 2, 1) := by decide +kernel
theorem dX0_walkersIn_30 : decode cX0_walkersIn 30 = .ok (.iinc 3 1, 3) := by decide +kernel
theorem dX0_walkersIn_33 : decode cX0_walkersIn 33 = .ok (.goto (-29), 3) := by decide +kernel
theorem dX0_walkersIn_36 : decode cX0_walkersIn 36 = .ok (.iload_n 2, 1) := by decide +kernel
theorem dX0_walkersIn_37 : decode cX0_walkersIn 37 = .ok (.ireturn, 1) := by decide +kernel
theorem dX0_standingByFour_0 : decode cX0_standingByFour 0 = .ok (.iconst 0, 1) := by decide +kernel
theorem dX0_standingByFour_1 : decode cX0_standingByFour 1 = .ok (.istore_n 1, 1) := by decide +kernel
theorem dX0_standingByFour_2 : decode cX0_standingByFour 2 = .ok (.bipush 7, 2) := by decide +kernel
theorem dX0_standingByFour_4 : decode cX0_standingByFour 4 = .ok (.istore_n 2, 1) := by decide +kernel
theorem dX0_standingByFour_5 : decode cX0_standingByFour 5 = .ok (.iload_n 2, 1) := by decide +kernel
theorem dX0_standingByFour_6 : decode cX0_standingByFour 6 = .ok (.ifCond .lt 20, 3) := by decide +kernel
theorem dX0_standingByFour_9 : decode cX0_standingByFour 9 = .ok (.iload_n 1, 1) := by decide +kernel
theorem dX0_standingByFour_10 : decode cX0_standingByFour 10 = .ok (.iconst 4, 1) := by decide +kernel
theorem dX0_standingByFour_11 : decode cX0_standingByFour 11 = .ok (.imul, 1) := by decide +kernel
theorem dX0_standingByFour_12 : decode cX0_standingByFour 12 = .ok (.aload_n 0, 1) := by decide +kernel
theorem dX0_standingByFour_13 : decode cX0_standingByFour 13 = .ok (.getfield 15, 3) := by decide +kernel
theorem dX0_standingByFour_16 : decode cX0_standingByFour 16 = .ok (.iload_n 2, 1) := by decide +kernel
theorem dX0_standingByFour_17 : decode cX0_standingByFour 17 = .ok (.iaload, 1) := by decide +kernel
theorem dX0_standingByFour_18 : decode cX0_standingByFour 18 = .ok (.iadd, 1) := by decide +kernel
theorem dX0_standingByFour_19 : decode cX0_standingByFour 19 = .ok (.istore_n 1, 1) := by decide +kernel
theorem dX0_standingByFour_20 : decode cX0_standingByFour 20 = .ok (.iinc 2 (-1), 3) := by decide +kernel
theorem dX0_standingByFour_23 : decode cX0_standingByFour 23 = .ok (.goto (-18), 3) := by decide +kernel
theorem dX0_standingByFour_26 : decode cX0_standingByFour 26 = .ok (.iload_n 1, 1) := by decide +kernel
theorem dX0_standingByFour_27 : decode cX0_standingByFour 27 = .ok (.ireturn, 1) := by decide +kernel
theorem dX0_notShut_0 : decode cX0_notShut 0 = .ok (.iconst 0, 1) := by decide +kernel
theorem dX0_notShut_1 : decode cX0_notShut 1 = .ok (.istore_n 1, 1) := by decide +kernel
theorem dX0_notShut_2 : decode cX0_notShut 2 = .ok (.iconst 0, 1) := by decide +kernel
theorem dX0_notShut_3 : decode cX0_notShut 3 = .ok (.istore_n 2, 1) := by decide +kernel
theorem dX0_notShut_4 : decode cX0_notShut 4 = .ok (.iload_n 2, 1) := by decide +kernel
theorem dX0_notShut_5 : decode cX0_notShut 5 = .ok (.bipush 8, 2) := by decide +kernel
theorem dX0_notShut_7 : decode cX0_notShut 7 = .ok (.if_icmp .ge 24, 3) := by decide +kernel
theorem dX0_notShut_10 : decode cX0_notShut 10 = .ok (.aload_n 0, 1) := by decide +kernel
theorem dX0_notShut_11 : decode cX0_notShut 11 = .ok (.getfield 15, 3) := by decide +kernel
theorem dX0_notShut_14 : decode cX0_notShut 14 = .ok (.iload_n 2, 1) := by decide +kernel
theorem dX0_notShut_15 : decode cX0_notShut 15 = .ok (.iaload, 1) := by decide +kernel
theorem dX0_notShut_16 : decode cX0_notShut 16 = .ok (.ifCond .eq 9, 3) := by decide +kernel
theorem dX0_notShut_19 : decode cX0_notShut 19 = .ok (.iload_n 1, 1) := by decide +kernel
theorem dX0_notShut_20 : decode cX0_notShut 20 = .ok (.iconst 1, 1) := by decide +kernel
theorem dX0_notShut_21 : decode cX0_notShut 21 = .ok (.iload_n 2, 1) := by decide +kernel
theorem dX0_notShut_22 : decode cX0_notShut 22 = .ok (.ishl, 1) := by decide +kernel
theorem dX0_notShut_23 : decode cX0_notShut 23 = .ok (.ior, 1) := by decide +kernel
theorem dX0_notShut_24 : decode cX0_notShut 24 = .ok (.istore_n 1, 1) := by decide +kernel
theorem dX0_notShut_25 : decode cX0_notShut 25 = .ok (.iinc 2 1, 3) := by decide +kernel
theorem dX0_notShut_28 : decode cX0_notShut 28 = .ok (.goto (-24), 3) := by decide +kernel
theorem dX0_notShut_31 : decode cX0_notShut 31 = .ok (.iload_n 1, 1) := by decide +kernel
theorem dX0_notShut_32 : decode cX0_notShut 32 = .ok (.ireturn, 1) := by decide +kernel
theorem dX0_allBeasts_0 : decode cX0_allBeasts 0 = .ok (.iconst 0, 1) := by decide +kernel
theorem dX0_allBeasts_1 : decode cX0_allBeasts 1 = .ok (.istore_n 1, 1) := by decide +kernel
theorem dX0_allBeasts_2 : decode cX0_allBeasts 2 = .ok (.iconst 0, 1) := by decide +kernel
theorem dX0_allBeasts_3 : decode cX0_allBeasts 3 = .ok (.istore_n 2, 1) := by decide +kernel
theorem dX0_allBeasts_4 : decode cX0_allBeasts 4 = .ok (.iload_n 2, 1) := by decide +kernel
theorem dX0_allBeasts_5 : decode cX0_allBeasts 5 = .ok (.bipush 9, 2) := by decide +kernel
theorem dX0_allBeasts_7 : decode cX0_allBeasts 7 = .ok (.if_icmp .ge 18, 3) := by decide +kernel
theorem dX0_allBeasts_10 : decode cX0_allBeasts 10 = .ok (.iload_n 1, 1) := by decide +kernel
theorem dX0_allBeasts_11 : decode cX0_allBeasts 11 = .ok (.aload_n 0, 1) := by decide +kernel
theorem dX0_allBeasts_12 : decode cX0_allBeasts 12 = .ok (.getfield 9, 3) := by decide +kernel
theorem dX0_allBeasts_15 : decode cX0_allBeasts 15 = .ok (.iload_n 2, 1) := by decide +kernel
theorem dX0_allBeasts_16 : decode cX0_allBeasts 16 = .ok (.iaload, 1) := by decide +kernel
theorem dX0_allBeasts_17 : decode cX0_allBeasts 17 = .ok (.iadd, 1) := by decide +kernel
theorem dX0_allBeasts_18 : decode cX0_allBeasts 18 = .ok (.istore_n 1, 1) := by decide +kernel
theorem dX0_allBeasts_19 : decode cX0_allBeasts 19 = .ok (.iinc 2 1, 3) := by decide +kernel
theorem dX0_allBeasts_22 : decode cX0_allBeasts 22 = .ok (.goto (-18), 3) := by decide +kernel
theorem dX0_allBeasts_25 : decode cX0_allBeasts 25 = .ok (.iload_n 1, 1) := by decide +kernel
theorem dX0_allBeasts_26 : decode cX0_allBeasts 26 = .ok (.ireturn, 1) := by decide +kernel
theorem dX0_allPassed_0 : decode cX0_allPassed 0 = .ok (.iconst 0, 1) := by decide +kernel
theorem dX0_allPassed_1 : decode cX0_allPassed 1 = .ok (.istore_n 1, 1) := by decide +kernel
theorem dX0_allPassed_2 : decode cX0_allPassed 2 = .ok (.iconst 0, 1) := by decide +kernel
theorem dX0_allPassed_3 : decode cX0_allPassed 3 = .ok (.istore_n 2, 1) := by decide +kernel
theorem dX0_allPassed_4 : decode cX0_allPassed 4 = .ok (.iload_n 2, 1) := by decide +kernel
theorem dX0_allPassed_5 : decode cX0_allPassed 5 = .ok (.aload_n 0, 1) := by decide +kernel
theorem dX0_allPassed_6 : decode cX0_allPassed 6 = .ok (.getfield 26, 3) := by decide +kernel
theorem dX0_allPassed_9 : decode cX0_allPassed 9 = .ok (.if_icmp .ge 20, 3) := by decide +kernel
theorem dX0_allPassed_12 : decode cX0_allPassed 12 = .ok (.iload_n 1, 1) := by decide +kernel
theorem dX0_allPassed_13 : decode cX0_allPassed 13 = .ok (.aload_n 0, 1) := by decide +kernel
theorem dX0_allPassed_14 : decode cX0_allPassed 14 = .ok (.getfield 20, 3) := by decide +kernel
theorem dX0_allPassed_17 : decode cX0_allPassed 17 = .ok (.iconst 4, 1) := by decide +kernel
theorem dX0_allPassed_18 : decode cX0_allPassed 18 = .ok (.aaload, 1) := by decide +kernel
theorem dX0_allPassed_19 : decode cX0_allPassed 19 = .ok (.iload_n 2, 1) := by decide +kernel
theorem dX0_allPassed_20 : decode cX0_allPassed 20 = .ok (.iaload, 1) := by decide +kernel
theorem dX0_allPassed_21 : decode cX0_allPassed 21 = .ok (.iadd, 1) := by decide +kernel
theorem dX0_allPassed_22 : decode cX0_allPassed 22 = .ok (.istore_n 1, 1) := by decide +kernel
theorem dX0_allPassed_23 : decode cX0_allPassed 23 = .ok (.iinc 2 1, 3) := by decide +kernel
theorem dX0_allPassed_26 : decode cX0_allPassed 26 = .ok (.goto (-22), 3) := by decide +kernel
theorem dX0_allPassed_29 : decode cX0_allPassed 29 = .ok (.iload_n 1, 1) := by decide +kernel
theorem dX0_allPassed_30 : decode cX0_allPassed 30 = .ok (.ireturn, 1) := by decide +kernel
theorem dX0_fullestField_0 : decode cX0_fullestField 0 = .ok (.iconst 0, 1) := by decide +kernel
theorem dX0_fullestField_1 : decode cX0_fullestField 1 = .ok (.istore_n 1, 1) := by decide +kernel
theorem dX0_fullestField_2 : decode cX0_fullestField 2 = .ok (.iconst 1, 1) := by decide +kernel
theorem dX0_fullestField_3 : decode cX0_fullestField 3 = .ok (.istore_n 2, 1) := by decide +kernel
theorem dX0_fullestField_4 : decode cX0_fullestField 4 = .ok (.iload_n 2, 1) := by decide +kernel
theorem dX0_fullestField_5 : decode cX0_fullestField 5 = .ok (.bipush 9, 2) := by decide +kernel
theorem dX0_fullestField_7 : decode cX0_fullestField 7 = .ok (.if_icmp .ge 26, 3) := by decide +kernel
theorem dX0_fullestField_10 : decode cX0_fullestField 10 = .ok (.aload_n 0, 1) := by decide +kernel
theorem dX0_fullestField_11 : decode cX0_fullestField 11 = .ok (.getfield 9, 3) := by decide +kernel
theorem dX0_fullestField_14 : decode cX0_fullestField 14 = .ok (.iload_n 2, 1) := by decide +kernel
theorem dX0_fullestField_15 : decode cX0_fullestField 15 = .ok (.iaload, 1) := by decide +kernel
theorem dX0_fullestField_16 : decode cX0_fullestField 16 = .ok (.aload_n 0, 1) := by decide +kernel
theorem dX0_fullestField_17 : decode cX0_fullestField 17 = .ok (.getfield 9, 3) := by decide +kernel
theorem dX0_fullestField_20 : decode cX0_fullestField 20 = .ok (.iload_n 1, 1) := by decide +kernel
theorem dX0_fullestField_21 : decode cX0_fullestField 21 = .ok (.iaload, 1) := by decide +kernel
theorem dX0_fullestField_22 : decode cX0_fullestField 22 = .ok (.if_icmp .le 5, 3) := by decide +kernel
theorem dX0_fullestField_25 : decode cX0_fullestField 25 = .ok (.iload_n 2, 1) := by decide +kernel
theorem dX0_fullestField_26 : decode cX0_fullestField 26 = .ok (.istore_n 1, 1) := by decide +kernel
theorem dX0_fullestField_27 : decode cX0_fullestField 27 = .ok (.iinc 2 1, 3) := by decide +kernel
theorem dX0_fullestField_30 : decode cX0_fullestField 30 = .ok (.goto (-26), 3) := by decide +kernel
theorem dX0_fullestField_33 : decode cX0_fullestField 33 = .ok (.iload_n 1, 1) := by decide +kernel
theorem dX0_fullestField_34 : decode cX0_fullestField 34 = .ok (.ireturn, 1) := by decide +kernel
theorem dX0_spotsInUse_0 : decode cX0_spotsInUse 0 = .ok (.iconst 0, 1) := by decide +kernel
theorem dX0_spotsInUse_1 : decode cX0_spotsInUse 1 = .ok (.istore_n 1, 1) := by decide +kernel
theorem dX0_spotsInUse_2 : decode cX0_spotsInUse 2 = .ok (.iconst 0, 1) := by decide +kernel
theorem dX0_spotsInUse_3 : decode cX0_spotsInUse 3 = .ok (.istore_n 2, 1) := by decide +kernel
theorem dX0_spotsInUse_4 : decode cX0_spotsInUse 4 = .ok (.iload_n 2, 1) := by decide +kernel
theorem dX0_spotsInUse_5 : decode cX0_spotsInUse 5 = .ok (.bipush 10, 2) := by decide +kernel
theorem dX0_spotsInUse_7 : decode cX0_spotsInUse 7 = .ok (.if_icmp .ge 22, 3) := by decide +kernel
theorem dX0_spotsInUse_10 : decode cX0_spotsInUse 10 = .ok (.aload_n 0, 1) := by decide +kernel
theorem dX0_spotsInUse_11 : decode cX0_spotsInUse 11 = .ok (.getfield 23, 3) := by decide +kernel
theorem dX0_spotsInUse_14 : decode cX0_spotsInUse 14 = .ok (.iload_n 2, 1) := by decide +kernel
theorem dX0_spotsInUse_15 : decode cX0_spotsInUse 15 = .ok (.iaload, 1) := by decide +kernel
theorem dX0_spotsInUse_16 : decode cX0_spotsInUse 16 = .ok (.iconst (-1), 1) := by decide +kernel
theorem dX0_spotsInUse_17 : decode cX0_spotsInUse 17 = .ok (.if_icmp .eq 6, 3) := by decide +kernel
theorem dX0_spotsInUse_20 : decode cX0_spotsInUse 20 = .ok (.iinc 1 1, 3) := by decide +kernel
theorem dX0_spotsInUse_23 : decode cX0_spotsInUse 23 = .ok (.iinc 2 1, 3) := by decide +kernel
theorem dX0_spotsInUse_26 : decode cX0_spotsInUse 26 = .ok (.goto (-22), 3) := by decide +kernel
theorem dX0_spotsInUse_29 : decode cX0_spotsInUse 29 = .ok (.iload_n 1, 1) := by decide +kernel
theorem dX0_spotsInUse_30 : decode cX0_spotsInUse 30 = .ok (.ireturn, 1) := by decide +kernel
theorem dX1_init_0 : decode cX1_init 0 = .ok (.aload_n 0, 1) := by decide +kernel
theorem dX1_init_1 : decode cX1_init 1 = .ok (.invokespecial 3, 3) := by decide +kernel
theorem dX1_init_4 : decode cX1_init 4 = .ok (.aload_n 0, 1) := by decide +kernel
theorem dX1_init_5 : decode cX1_init 5 = .ok (.bipush 40, 2) := by decide +kernel
theorem dX1_init_7 : decode cX1_init 7 = .ok (.newarray .int, 2) := by decide +kernel
theorem dX1_init_9 : decode cX1_init 9 = .ok (.putfield 9, 3) := by decide +kernel
theorem dX1_init_12 : decode cX1_init 12 = .ok (.aload_n 0, 1) := by decide +kernel
theorem dX1_init_13 : decode cX1_init 13 = .ok (.iconst 0, 1) := by decide +kernel
theorem dX1_init_14 : decode cX1_init 14 = .ok (.putfield 15, 3) := by decide +kernel
theorem dX1_init_17 : decode cX1_init 17 = .ok (.aload_n 0, 1) := by decide +kernel
theorem dX1_init_18 : decode cX1_init 18 = .ok (.iconst 0, 1) := by decide +kernel
theorem dX1_init_19 : decode cX1_init 19 = .ok (.putfield 19, 3) := by decide +kernel
theorem dX1_init_22 : decode cX1_init 22 = .ok (.return_, 1) := by decide +kernel
theorem dX1_isMissing_0 : decode cX1_isMissing 0 = .ok (.aload_n 0, 1) := by decide +kernel
theorem dX1_isMissing_1 : decode cX1_isMissing 1 = .ok (.getfield 15, 3) := by decide +kernel
theorem dX1_isMissing_4 : decode cX1_isMissing 4 = .ok (.ifCond .ne 7, 3) := by decide +kernel
theorem dX1_isMissing_7 : decode cX1_isMissing 7 = .ok (.iconst 1, 1) := by decide +kernel
theorem dX1_isMissing_8 : decode cX1_isMissing 8 = .ok (.goto 4, 3) := by decide +kernel
theorem dX1_isMissing_11 : decode cX1_isMissing 11 = .ok (.iconst 0, 1) := by decide +kernel
theorem dX1_isMissing_12 : decode cX1_isMissing 12 = .ok (.ireturn, 1) := by decide +kernel
theorem dX1_clear_0 : decode cX1_clear 0 = .ok (.aload_n 0, 1) := by decide +kernel
theorem dX1_clear_1 : decode cX1_clear 1 = .ok (.iload_n 1, 1) := by decide +kernel
theorem dX1_clear_2 : decode cX1_clear 2 = .ok (.putfield 15, 3) := by decide +kernel
theorem dX1_clear_5 : decode cX1_clear 5 = .ok (.aload_n 0, 1) := by decide +kernel
theorem dX1_clear_6 : decode cX1_clear 6 = .ok (.iload_n 2, 1) := by decide +kernel
theorem dX1_clear_7 : decode cX1_clear 7 = .ok (.putfield 19, 3) := by decide +kernel
theorem dX1_clear_10 : decode cX1_clear 10 = .ok (.iconst 0, 1) := by decide +kernel
theorem dX1_clear_11 : decode cX1_clear 11 = .ok (.istore_n 3, 1) := by decide +kernel
theorem dX1_clear_12 : decode cX1_clear 12 = .ok (.iload_n 3, 1) := by decide +kernel
theorem dX1_clear_13 : decode cX1_clear 13 = .ok (.bipush 40, 2) := by decide +kernel
theorem dX1_clear_15 : decode cX1_clear 15 = .ok (.if_icmp .ge 16, 3) := by decide +kernel
theorem dX1_clear_18 : decode cX1_clear 18 = .ok (.aload_n 0, 1) := by decide +kernel
theorem dX1_clear_19 : decode cX1_clear 19 = .ok (.getfield 9, 3) := by decide +kernel
theorem dX1_clear_22 : decode cX1_clear 22 = .ok (.iload_n 3, 1) := by decide +kernel
theorem dX1_clear_23 : decode cX1_clear 23 = .ok (.iconst 0, 1) := by decide +kernel
theorem dX1_clear_24 : decode cX1_clear 24 = .ok (.iastore, 1) := by decide +kernel
theorem dX1_clear_25 : decode cX1_clear 25 = .ok (.iinc 3 1, 3) := by decide +kernel
theorem dX1_clear_28 : decode cX1_clear 28 = .ok (.goto (-16), 3) := by decide +kernel
theorem dX1_clear_31 : decode cX1_clear 31 = .ok (.return_, 1) := by decide +kernel
theorem dX1_put_0 : decode cX1_put 0 = .ok (.aload_n 0, 1) := by decide +kernel
theorem dX1_put_1 : decode cX1_put 1 = .ok (.getfield 15, 3) := by decide +kernel
theorem dX1_put_4 : decode cX1_put 4 = .ok (.bipush 8, 2) := by decide +kernel
theorem dX1_put_6 : decode cX1_put 6 = .ok (.if_icmp .ne 14, 3) := by decide +kernel
theorem dX1_put_9 : decode cX1_put 9 = .ok (.aload_n 0, 1) := by decide +kernel
theorem dX1_put_10 : decode cX1_put 10 = .ok (.getfield 9, 3) := by decide +kernel
theorem dX1_put_13 : decode cX1_put 13 = .ok (.iload_n 1, 1) := by decide +kernel
theorem dX1_put_14 : decode cX1_put 14 = .ok (.iload_n 2, 1) := by decide +kernel
theorem dX1_put_15 : decode cX1_put 15 = .ok (.i2b, 1) := by decide +kernel
theorem dX1_put_16 : decode cX1_put 16 = .ok (.iastore, 1) := by decide +kernel
theorem dX1_put_17 : decode cX1_put 17 = .ok (.goto 30, 3) := by decide +kernel
theorem dX1_put_20 : decode cX1_put 20 = .ok (.aload_n 0, 1) := by decide +kernel
theorem dX1_put_21 : decode cX1_put 21 = .ok (.getfield 15, 3) := by decide +kernel
theorem dX1_put_24 : decode cX1_put 24 = .ok (.bipush 16, 2) := by decide +kernel
theorem dX1_put_26 : decode cX1_put 26 = .ok (.if_icmp .ne 14, 3) := by decide +kernel
theorem dX1_put_29 : decode cX1_put 29 = .ok (.aload_n 0, 1) := by decide +kernel
theorem dX1_put_30 : decode cX1_put 30 = .ok (.getfield 9, 3) := by decide +kernel
theorem dX1_put_33 : decode cX1_put 33 = .ok (.iload_n 1, 1) := by decide +kernel
theorem dX1_put_34 : decode cX1_put 34 = .ok (.iload_n 2, 1) := by decide +kernel
theorem dX1_put_35 : decode cX1_put 35 = .ok (.i2s, 1) := by decide +kernel
theorem dX1_put_36 : decode cX1_put 36 = .ok (.iastore, 1) := by decide +kernel
theorem dX1_put_37 : decode cX1_put 37 = .ok (.goto 10, 3) := by decide +kernel
theorem dX1_put_40 : decode cX1_put 40 = .ok (.aload_n 0, 1) := by decide +kernel
theorem dX1_put_41 : decode cX1_put 41 = .ok (.getfield 9, 3) := by decide +kernel
theorem dX1_put_44 : decode cX1_put 44 = .ok (.iload_n 1, 1) := by decide +kernel
theorem dX1_put_45 : decode cX1_put 45 = .ok (.iload_n 2, 1) := by decide +kernel
theorem dX1_put_46 : decode cX1_put 46 = .ok (.iastore, 1) := by decide +kernel
theorem dX1_put_47 : decode cX1_put 47 = .ok (.return_, 1) := by decide +kernel
theorem dX1_hasRow_0 : decode cX1_hasRow 0 = .ok (.iload_n 1, 1) := by decide +kernel
theorem dX1_hasRow_1 : decode cX1_hasRow 1 = .ok (.ifCond .lt 29, 3) := by decide +kernel
theorem dX1_hasRow_4 : decode cX1_hasRow 4 = .ok (.iload_n 2, 1) := by decide +kernel
theorem dX1_hasRow_5 : decode cX1_hasRow 5 = .ok (.ifCond .lt 25, 3) := by decide +kernel
theorem dX1_hasRow_8 : decode cX1_hasRow 8 = .ok (.iload_n 2, 1) := by decide +kernel
theorem dX1_hasRow_9 : decode cX1_hasRow 9 = .ok (.aload_n 0, 1) := by decide +kernel
theorem dX1_hasRow_10 : decode cX1_hasRow 10 = .ok (.getfield 19, 3) := by decide +kernel
theorem dX1_hasRow_13 : decode cX1_hasRow 13 = .ok (.if_icmp .gt 17, 3) := by decide +kernel
theorem dX1_hasRow_16 : decode cX1_hasRow 16 = .ok (.iload_n 1, 1) := by decide +kernel
theorem dX1_hasRow_17 : decode cX1_hasRow 17 = .ok (.aload_n 0, 1) := by decide +kernel
theorem dX1_hasRow_18 : decode cX1_hasRow 18 = .ok (.getfield 19, 3) := by decide +kernel
theorem dX1_hasRow_21 : decode cX1_hasRow 21 = .ok (.iload_n 2, 1) := by decide +kernel
theorem dX1_hasRow_22 : decode cX1_hasRow 22 = .ok (.isub, 1) := by decide +kernel
theorem dX1_hasRow_23 : decode cX1_hasRow 23 = .ok (.if_icmp .gt 7, 3) := by decide +kernel
theorem dX1_hasRow_26 : decode cX1_hasRow 26 = .ok (.iconst 1, 1) := by decide +kernel
theorem dX1_hasRow_27 : decode cX1_hasRow 27 = .ok (.goto 4, 3) := by decide +kernel
theorem dX1_hasRow_30 : decode cX1_hasRow 30 = .ok (.iconst 0, 1) := by decide +kernel
theorem dX1_hasRow_31 : decode cX1_hasRow 31 = .ok (.ireturn, 1) := by decide +kernel
theorem dX2_init_0 : decode cX2_init 0 = .ok (.aload_n 0, 1) := by decide +kernel
theorem dX2_init_1 : decode cX2_init 1 = .ok (.invokespecial 3, 3) := by decide +kernel
theorem dX2_init_4 : decode cX2_init 4 = .ok (.aload_n 0, 1) := by decide +kernel
theorem dX2_init_5 : decode cX2_init 5 = .ok (.bipush 120, 2) := by decide +kernel
theorem dX2_init_7 : decode cX2_init 7 = .ok (.newarray .byte, 2) := by decide +kernel
theorem dX2_init_9 : decode cX2_init 9 = .ok (.putfield 9, 3) := by decide +kernel
theorem dX2_init_12 : decode cX2_init 12 = .ok (.aload_n 0, 1) := by decide +kernel
theorem dX2_init_13 : decode cX2_init 13 = .ok (.iconst 0, 1) := by decide +kernel
theorem dX2_init_14 : decode cX2_init 14 = .ok (.putfield 15, 3) := by decide +kernel
theorem dX2_init_17 : decode cX2_init 17 = .ok (.aload_n 0, 1) := by decide +kernel
theorem dX2_init_18 : decode cX2_init 18 = .ok (.ldc 19, 2) := by decide +kernel
theorem dX2_init_20 : decode cX2_init 20 = .ok (.invokevirtual 21, 3) := by decide +kernel
theorem dX2_init_23 : decode cX2_init 23 = .ok (.putfield 27, 3) := by decide +kernel
theorem dX2_init_26 : decode cX2_init 26 = .ok (.aload_n 0, 1) := by decide +kernel
theorem dX2_init_27 : decode cX2_init 27 = .ok (.bipush 121, 2) := by decide +kernel
theorem dX2_init_29 : decode cX2_init 29 = .ok (.newarray .int, 2) := by decide +kernel
theorem dX2_init_31 : decode cX2_init 31 = .ok (.putfield 31, 3) := by decide +kernel
theorem dX2_init_34 : decode cX2_init 34 = .ok (.aload_n 0, 1) := by decide +kernel
theorem dX2_init_35 : decode cX2_init 35 = .ok (.bipush 121, 2) := by decide +kernel
theorem dX2_init_37 : decode cX2_init 37 = .ok (.newarray .int, 2) := by decide +kernel
theorem dX2_init_39 : decode cX2_init 39 = .ok (.putfield 35, 3) := by decide +kernel
theorem dX2_init_42 : decode cX2_init 42 = .ok (.aload_n 0, 1) := by decide +kernel
theorem dX2_init_43 : decode cX2_init 43 = .ok (.bipush 121, 2) := by decide +kernel
theorem dX2_init_45 : decode cX2_init 45 = .ok (.newarray .int, 2) := by decide +kernel
theorem dX2_init_47 : decode cX2_init 47 = .ok (.putfield 38, 3) := by decide +kernel
theorem dX2_init_50 : decode cX2_init 50 = .ok (.aload_n 0, 1) := by decide +kernel
theorem dX2_init_51 : decode cX2_init 51 = .ok (.iconst 0, 1) := by decide +kernel
theorem dX2_init_52 : decode cX2_init 52 = .ok (.putfield 41, 3) := by decide +kernel
theorem dX2_init_55 : decode cX2_init 55 = .ok (.return_, 1) := by decide +kernel
theorem dX2_put_0 : decode cX2_put 0 = .ok (.aload_n 0, 1) := by decide +kernel
theorem dX2_put_1 : decode cX2_put 1 = .ok (.getfield 15, 3) := by decide +kernel
theorem dX2_put_4 : decode cX2_put 4 = .ok (.bipush 120, 2) := by decide +kernel
theorem dX2_put_6 : decode cX2_put 6 = .ok (.if_icmp .ge 24, 3) := by decide +kernel
theorem dX2_put_9 : decode cX2_put 9 = .ok (.aload_n 0, 1) := by decide +kernel
theorem dX2_put_10 : decode cX2_put 10 = .ok (.getfield 9, 3) := by decide +kernel
theorem dX2_put_13 : decode cX2_put 13 = .ok (.aload_n 0, 1) := by decide +kernel
theorem dX2_put_14 : decode cX2_put 14 = .ok (.getfield 15, 3) := by decide +kernel
theorem dX2_put_17 : decode cX2_put 17 = .ok (.iload_n 1, 1) := by decide +kernel
theorem dX2_put_18 : decode cX2_put 18 = .ok (.i2b, 1) := by decide +kernel
theorem dX2_put_19 : decode cX2_put 19 = .ok (.bastore, 1) := by decide +kernel
theorem dX2_put_20 : decode cX2_put 20 = .ok (.aload_n 0, 1) := by decide +kernel
theorem dX2_put_21 : decode cX2_put 21 = .ok (.dup, 1) := by decide +kernel
theorem dX2_put_22 : decode cX2_put 22 = .ok (.getfield 15, 3) := by decide +kernel
theorem dX2_put_25 : decode cX2_put 25 = .ok (.iconst 1, 1) := by decide +kernel
theorem dX2_put_26 : decode cX2_put 26 = .ok (.iadd, 1) := by decide +kernel
theorem dX2_put_27 : decode cX2_put 27 = .ok (.putfield 15, 3) := by decide +kernel
theorem dX2_put_30 : decode cX2_put 30 = .ok (.return_, 1) := by decide +kernel
theorem dX2_tellTo_0 : decode cX2_tellTo 0 = .ok (.aload_n 0, 1) := by decide +kernel
theorem dX2_tellTo_1 : decode cX2_tellTo 1 = .ok (.invokevirtual 44, 3) := by decide +kernel
theorem dX2_tellTo_4 : decode cX2_tellTo 4 = .ok (.aload_n 0, 1) := by decide +kernel
theorem dX2_tellTo_5 : decode cX2_tellTo 5 = .ok (.iconst 0, 1) := by decide +kernel
theorem dX2_tellTo_6 : decode cX2_tellTo 6 = .ok (.putfield 41, 3) := by decide +kernel
theorem dX2_tellTo_9 : decode cX2_tellTo 9 = .ok (.iconst 1, 1) := by decide +kernel
theorem dX2_tellTo_10 : decode cX2_tellTo 10 = .ok (.istore_n 2, 1) := by decide +kernel
theorem dX2_tellTo_11 : decode cX2_tellTo 11 = .ok (.iload_n 2, 1) := by decide +kernel
theorem dX2_tellTo_12 : decode cX2_tellTo 12 = .ok (.bipush 120, 2) := by decide +kernel
theorem dX2_tellTo_14 : decode cX2_tellTo 14 = .ok (.if_icmp .gt 61, 3) := by decide +kernel
theorem dX2_tellTo_17 : decode cX2_tellTo 17 = .ok (.aload_n 0, 1) := by decide +kernel
theorem dX2_tellTo_18 : decode cX2_tellTo 18 = .ok (.aload_n 1, 1) := by decide +kernel
theorem dX2_tellTo_19 : decode cX2_tellTo 19 = .ok (.invokevirtual 47, 3) := by decide +kernel
theorem dX2_tellTo_22 : decode cX2_tellTo 22 = .ok (.ifCond .ne 6, 3) := by decide +kernel
theorem dX2_tellTo_25 : decode cX2_tellTo 25 = .ok (.goto 50, 3) := by decide +kernel
theorem dX2_tellTo_28 : decode cX2_tellTo 28 = .ok (.aload_n 0, 1) := by decide +kernel
theorem dX2_tellTo_29 : decode cX2_tellTo 29 = .ok (.getfield 31, 3) := by decide +kernel
theorem dX2_tellTo_32 : decode cX2_tellTo 32 = .ok (.aload_n 0, 1) := by decide +kernel
theorem dX2_tellTo_33 : decode cX2_tellTo 33 = .ok (.getfield 41, 3) := by decide +kernel
theorem dX2_tellTo_36 : decode cX2_tellTo 36 = .ok (.iaload, 1) := by decide +kernel
theorem dX2_tellTo_37 : decode cX2_tellTo 37 = .ok (.iconst 5, 1) := by decide +kernel
theorem dX2_tellTo_38 : decode cX2_tellTo 38 = .ok (.if_icmp .ne 5, 3) := by decide +kernel
theorem dX2_tellTo_41 : decode cX2_tellTo 41 = .ok (.iload_n 2, 1) := by decide +kernel
theorem dX2_tellTo_42 : decode cX2_tellTo 42 = .ok (.ireturn, 1) := by decide +kernel
theorem dX2_tellTo_43 : decode cX2_tellTo 43 = .ok (.aload_n 0, 1) := by decide +kernel
theorem dX2_tellTo_44 : decode cX2_tellTo 44 = .ok (.getfield 31, 3) := by decide +kernel
theorem dX2_tellTo_47 : decode cX2_tellTo 47 = .ok (.aload_n 0, 1) := by decide +kernel
theorem dX2_tellTo_48 : decode cX2_tellTo 48 = .ok (.getfield 41, 3) := by decide +kernel
theorem dX2_tellTo_51 : decode cX2_tellTo 51 = .ok (.iaload, 1) := by decide +kernel
theorem dX2_tellTo_52 : decode cX2_tellTo 52 = .ok (.iconst 2, 1) := by decide +kernel
theorem dX2_tellTo_53 : decode cX2_tellTo 53 = .ok (.if_icmp .eq 6, 3) := by decide +kernel
theorem dX2_tellTo_56 : decode cX2_tellTo 56 = .ok (.goto 19, 3) := by decide +kernel
theorem dX2_tellTo_59 : decode cX2_tellTo 59 = .ok (.aload_n 0, 1) := by decide +kernel
theorem dX2_tellTo_60 : decode cX2_tellTo 60 = .ok (.dup, 1) := by decide +kernel
theorem dX2_tellTo_61 : decode cX2_tellTo 61 = .ok (.getfield 41, 3) := by decide +kernel
theorem dX2_tellTo_64 : decode cX2_tellTo 64 = .ok (.iconst 1, 1) := by decide +kernel
theorem dX2_tellTo_65 : decode cX2_tellTo 65 = .ok (.iadd, 1) := by decide +kernel
theorem dX2_tellTo_66 : decode cX2_tellTo 66 = .ok (.putfield 41, 3) := by decide +kernel
theorem dX2_tellTo_69 : decode cX2_tellTo 69 = .ok (.iinc 2 1, 3) := by decide +kernel
theorem dX2_tellTo_72 : decode cX2_tellTo 72 = .ok (.goto (-61), 3) := by decide +kernel
theorem dX2_tellTo_75 : decode cX2_tellTo 75 = .ok (.iconst (-1), 1) := by decide +kernel
theorem dX2_tellTo_76 : decode cX2_tellTo 76 = .ok (.aload_n 0, 1) := by decide +kernel
theorem dX2_tellTo_77 : decode cX2_tellTo 77 = .ok (.getfield 35, 3) := by decide +kernel
theorem dX2_tellTo_80 : decode cX2_tellTo 80 = .ok (.aload_n 0, 1) := by decide +kernel
theorem dX2_tellTo_81 : decode cX2_tellTo 81 = .ok (.getfield 41, 3) := by decide +kernel
theorem dX2_tellTo_84 : decode cX2_tellTo 84 = .ok (.iaload, 1) := by decide +kernel
theorem dX2_tellTo_85 : decode cX2_tellTo 85 = .ok (.isub, 1) := by decide +kernel
theorem dX2_tellTo_86 : decode cX2_tellTo 86 = .ok (.ireturn, 1) := by decide +kernel
theorem dX2_split_0 : decode cX2_split 0 = .ok (.iconst 0, 1) := by decide +kernel
theorem dX2_split_1 : decode cX2_split 1 = .ok (.istore_n 1, 1) := by decide +kernel
theorem dX2_split_2 : decode cX2_split 2 = .ok (.iconst 3, 1) := by decide +kernel
theorem dX2_split_3 : decode cX2_split 3 = .ok (.istore_n 2, 1) := by decide +kernel
theorem dX2_split_4 : decode cX2_split 4 = .ok (.iconst 0, 1) := by decide +kernel
theorem dX2_split_5 : decode cX2_split 5 = .ok (.istore_n 3, 1) := by decide +kernel
theorem dX2_split_6 : decode cX2_split 6 = .ok (.iload_n 3, 1) := by decide +kernel
theorem dX2_split_7 : decode cX2_split 7 = .ok (.aload_n 0, 1) := by decide +kernel
theorem dX2_split_8 : decode cX2_split 8 = .ok (.getfield 15, 3) := by decide +kernel
theorem dX2_split_11 : decode cX2_split 11 = .ok (.if_icmp .ge 76, 3) := by decide +kernel
theorem dX2_split_14 : decode cX2_split 14 = .ok (.aload_n 0, 1) := by decide +kernel
theorem dX2_split_15 : decode cX2_split 15 = .ok (.getfield 9, 3) := by decide +kernel
theorem dX2_split_18 : decode cX2_split 18 = .ok (.iload_n 3, 1) := by decide +kernel
theorem dX2_split_19 : decode cX2_split 19 = .ok (.baload, 1) := by decide +kernel
theorem dX2_split_20 : decode cX2_split 20 = .ok (.invokestatic 51, 3) := by decide +kernel
theorem dX2_split_23 : decode cX2_split 23 = .ok (.istore 4, 2) := by decide +kernel
theorem dX2_split_25 : decode cX2_split 25 = .ok (.iload 4, 2) := by decide +kernel
theorem dX2_split_27 : decode cX2_split 27 = .ok (.iload_n 2, 1) := by decide +kernel
theorem dX2_split_28 : decode cX2_split 28 = .ok (.if_icmp .ne 33, 3) := by decide +kernel
theorem dX2_split_31 : decode cX2_split 31 = .ok (.iload 4, 2) := by decide +kernel
theorem dX2_split_33 : decode cX2_split 33 = .ok (.ifCond .eq 9, 3) := by decide +kernel
theorem dX2_split_36 : decode cX2_split 36 = .ok (.iload 4, 2) := by decide +kernel
theorem dX2_split_38 : decode cX2_split 38 = .ok (.iconst 1, 1) := by decide +kernel
theorem dX2_split_39 : decode cX2_split 39 = .ok (.if_icmp .ne 22, 3) := by decide +kernel
theorem dX2_split_42 : decode cX2_split 42 = .ok (.iload_n 1, 1) := by decide +kernel
theorem dX2_split_43 : decode cX2_split 43 = .ok (.ifCond .le 18, 3) := by decide +kernel
theorem dX2_split_46 : decode cX2_split 46 = .ok (.aload_n 0, 1) := by decide +kernel
theorem dX2_split_47 : decode cX2_split 47 = .ok (.getfield 38, 3) := by decide +kernel
theorem dX2_split_50 : decode cX2_split 50 = .ok (.iload_n 1, 1) := by decide +kernel
theorem dX2_split_51 : decode cX2_split 51 = .ok (.iconst 1, 1) := by decide +kernel
theorem dX2_split_52 : decode cX2_split 52 = .ok (.isub, 1) := by decide +kernel
theorem dX2_split_53 : decode cX2_split 53 = .ok (.dup2, 1) := by decide +kernel
theorem dX2_split_54 : decode cX2_split 54 = .ok (.iaload, 1) := by decide +kernel
theorem dX2_split_55 : decode cX2_split 55 = .ok (.iconst 1, 1) := by decide +kernel
theorem dX2_split_56 : decode cX2_split 56 = .ok (.iadd, 1) := by decide +kernel
theorem dX2_split_57 : decode cX2_split 57 = .ok (.iastore, 1) := by decide +kernel
theorem dX2_split_58 : decode cX2_split 58 = .ok (.goto 20, 3) := by decide +kernel
theorem dX2_split_61 : decode cX2_split 61 = .ok (.iload 4, 2) := by decide +kernel
theorem dX2_split_63 : decode cX2_split 63 = .ok (.iconst 3, 1) := by decide +kernel
theorem dX2_split_64 : decode cX2_split 64 = .ok (.if_icmp .eq 14, 3) := by decide +kernel
theorem dX2_split_67 : decode cX2_split 67 = .ok (.aload_n 0, 1) := by decide +kernel
theorem dX2_split_68 : decode cX2_split 68 = .ok (.iload_n 1, 1) := by decide +kernel
theorem dX2_split_69 : decode cX2_split 69 = .ok (.iload 4, 2) := by decide +kernel
theorem dX2_split_71 : decode cX2_split 71 = .ok (.iload_n 3, 1) := by decide +kernel
theorem dX2_split_72 : decode cX2_split 72 = .ok (.invokevirtual 55, 3) := by decide +kernel
theorem dX2_split_75 : decode cX2_split 75 = .ok (.iinc 1 1, 3) := by decide +kernel
theorem dX2_split_78 : decode cX2_split 78 = .ok (.iload 4, 2) := by decide +kernel
theorem dX2_split_80 : decode cX2_split 80 = .ok (.istore_n 2, 1) := by decide +kernel
theorem dX2_split_81 : decode cX2_split 81 = .ok (.iinc 3 1, 3) := by decide +kernel
theorem dX2_split_84 : decode cX2_split 84 = .ok (.goto (-78), 3) := by decide +kernel
theorem dX2_split_87 : decode cX2_split 87 = .ok (.aload_n 0, 1) := by decide +kernel
theorem dX2_split_88 : decode cX2_split 88 = .ok (.iload_n 1, 1) := by decide +kernel
theorem dX2_split_89 : decode cX2_split 89 = .ok (.iconst 5, 1) := by decide +kernel
theorem dX2_split_90 : decode cX2_split 90 = .ok (.aload_n 0, 1) := by decide +kernel
theorem dX2_split_91 : decode cX2_split 91 = .ok (.getfield 15, 3) := by decide +kernel
theorem dX2_split_94 : decode cX2_split 94 = .ok (.invokevirtual 55, 3) := by decide +kernel
theorem dX2_split_97 : decode cX2_split 97 = .ok (.return_, 1) := by decide +kernel
theorem dX2_setToken_0 : decode cX2_setToken 0 = .ok (.aload_n 0, 1) := by decide +kernel
theorem dX2_setToken_1 : decode cX2_setToken 1 = .ok (.getfield 31, 3) := by decide +kernel
theorem dX2_setToken_4 : decode cX2_setToken 4 = .ok (.iload_n 1, 1) := by decide +kernel
theorem dX2_setToken_5 : decode cX2_setToken 5 = .ok (.iload_n 2, 1) := by decide +kernel
theorem dX2_setToken_6 : decode cX2_setToken 6 = .ok (.iastore, 1) := by decide +kernel
theorem dX2_setToken_7 : decode cX2_setToken 7 = .ok (.aload_n 0, 1) := by decide +kernel
theorem dX2_setToken_8 : decode cX2_setToken 8 = .ok (.getfield 35, 3) := by decide +kernel
theorem dX2_setToken_11 : decode cX2_setToken 11 = .ok (.iload_n 1, 1) := by decide +kernel
theorem dX2_setToken_12 : decode cX2_setToken 12 = .ok (.iload_n 3, 1) := by decide +kernel
theorem dX2_setToken_13 : decode cX2_setToken 13 = .ok (.iastore, 1) := by decide +kernel
theorem dX2_setToken_14 : decode cX2_setToken 14 = .ok (.aload_n 0, 1) := by decide +kernel
theorem dX2_setToken_15 : decode cX2_setToken 15 = .ok (.getfield 38, 3) := by decide +kernel
theorem dX2_setToken_18 : decode cX2_setToken 18 = .ok (.iload_n 1, 1) := by decide +kernel
theorem dX2_setToken_19 : decode cX2_setToken 19 = .ok (.iconst 1, 1) := by decide +kernel
theorem dX2_setToken_20 : decode cX2_setToken 20 = .ok (.iastore, 1) := by decide +kernel
theorem dX2_setToken_21 : decode cX2_setToken 21 = .ok (.return_, 1) := by decide +kernel
theorem dX2_sortOf_0 : decode cX2_sortOf 0 = .ok (.iload_n 0, 1) := by decide +kernel
theorem dX2_sortOf_1 : decode cX2_sortOf 1 = .ok (.bipush 97, 2) := by decide +kernel
theorem dX2_sortOf_3 : decode cX2_sortOf 3 = .ok (.if_icmp .lt 11, 3) := by decide +kernel
theorem dX2_sortOf_6 : decode cX2_sortOf 6 = .ok (.iload_n 0, 1) := by decide +kernel
theorem dX2_sortOf_7 : decode cX2_sortOf 7 = .ok (.bipush 122, 2) := by decide +kernel
theorem dX2_sortOf_9 : decode cX2_sortOf 9 = .ok (.if_icmp .gt 5, 3) := by decide +kernel
theorem dX2_sortOf_12 : decode cX2_sortOf 12 = .ok (.iconst 0, 1) := by decide +kernel
theorem dX2_sortOf_13 : decode cX2_sortOf 13 = .ok (.ireturn, 1) := by decide +kernel
theorem dX2_sortOf_14 : decode cX2_sortOf 14 = .ok (.iload_n 0, 1) := by decide +kernel
theorem dX2_sortOf_15 : decode cX2_sortOf 15 = .ok (.bipush 48, 2) := by decide +kernel
theorem dX2_sortOf_17 : decode cX2_sortOf 17 = .ok (.if_icmp .lt 11, 3) := by decide +kernel
theorem dX2_sortOf_20 : decode cX2_sortOf 20 = .ok (.iload_n 0, 1) := by decide +kernel
theorem dX2_sortOf_21 : decode cX2_sortOf 21 = .ok (.bipush 57, 2) := by decide +kernel
theorem dX2_sortOf_23 : decode cX2_sortOf 23 = .ok (.if_icmp .gt 5, 3) := by decide +kernel
theorem dX2_sortOf_26 : decode cX2_sortOf 26 = .ok (.iconst 1, 1) := by decide +kernel
theorem dX2_sortOf_27 : decode cX2_sortOf 27 = .ok (.ireturn, 1) := by decide +kernel
theorem dX2_sortOf_28 : decode cX2_sortOf 28 = .ok (.iload_n 0, 1) := by decide +kernel
theorem dX2_sortOf_29 : decode cX2_sortOf 29 = .ok (.bipush 59, 2) := by decide +kernel
theorem dX2_sortOf_31 : decode cX2_sortOf 31 = .ok (.if_icmp .ne 5, 3) := by decide +kernel
theorem dX2_sortOf_34 : decode cX2_sortOf 34 = .ok (.iconst 2, 1) := by decide +kernel
theorem dX2_sortOf_35 : decode cX2_sortOf 35 = .ok (.ireturn, 1) := by decide +kernel
theorem dX2_sortOf_36 : decode cX2_sortOf 36 = .ok (.iload_n 0, 1) := by decide +kernel
theorem dX2_sortOf_37 : decode cX2_sortOf 37 = .ok (.bipush 32, 2) := by decide +kernel
theorem dX2_sortOf_39 : decode cX2_sortOf 39 = .ok (.if_icmp .ne 7, 3) := by decide +kernel
theorem dX2_sortOf_42 : decode cX2_sortOf 42 = .ok (.iconst 3, 1) := by decide +kernel
theorem dX2_sortOf_43 : decode cX2_sortOf 43 = .ok (.goto 4, 3) := by decide +kernel
theorem dX2_sortOf_46 : decode cX2_sortOf 46 = .ok (.iconst 4, 1) := by decide +kernel
theorem dX2_sortOf_47 : decode cX2_sortOf 47 = .ok (.ireturn, 1) := by decide +kernel
theorem dX2_takeItem_0 : decode cX2_takeItem 0 = .ok (.aload_n 0, 1) := by decide +kernel
theorem dX2_takeItem_1 : decode cX2_takeItem 1 = .ok (.invokevirtual 59, 3) := by decide +kernel
theorem dX2_takeItem_4 : decode cX2_takeItem 4 = .ok (.istore_n 2, 1) := by decide +kernel
theorem dX2_takeItem_5 : decode cX2_takeItem 5 = .ok (.iload_n 2, 1) := by decide +kernel
theorem dX2_takeItem_6 : decode cX2_takeItem 6 = .ok (.ifCond .ge 5, 3) := by decide +kernel
theorem dX2_takeItem_9 : decode cX2_takeItem 9 = .ok (.iconst 0, 1) := by decide +kernel
theorem dX2_takeItem_10 : decode cX2_takeItem 10 = .ok (.ireturn, 1) := by decide +kernel
theorem dX2_takeItem_11 : decode cX2_takeItem 11 = .ok (.iload_n 2, 1) := by decide +kernel
theorem dX2_takeItem_12 : decode cX2_takeItem 12 = .ok (.bipush 7, 2) := by decide +kernel
theorem dX2_takeItem_14 : decode cX2_takeItem 14 = .ok (.if_icmp .ge 10, 3) := by decide +kernel
theorem dX2_takeItem_17 : decode cX2_takeItem 17 = .ok (.aload_n 0, 1) := by decide +kernel
theorem dX2_takeItem_18 : decode cX2_takeItem 18 = .ok (.aload_n 1, 1) := by decide +kernel
theorem dX2_takeItem_19 : decode cX2_takeItem 19 = .ok (.iload_n 2, 1) := by decide +kernel
theorem dX2_takeItem_20 : decode cX2_takeItem 20 = .ok (.invokevirtual 63, 3) := by decide +kernel
theorem dX2_takeItem_23 : decode cX2_takeItem 23 = .ok (.ireturn, 1) := by decide +kernel
theorem dX2_takeItem_24 : decode cX2_takeItem 24 = .ok (.iload_n 2, 1) := by decide +kernel
theorem dX2_takeItem_25 : decode cX2_takeItem 25 = .ok (.bipush 10, 2) := by decide +kernel
theorem dX2_takeItem_27 : decode cX2_takeItem 27 = .ok (.if_icmp .gt 13, 3) := by decide +kernel
theorem dX2_takeItem_30 : decode cX2_takeItem 30 = .ok (.aload_n 0, 1) := by decide +kernel
theorem dX2_takeItem_31 : decode cX2_takeItem 31 = .ok (.aload_n 1, 1) := by decide +kernel
theorem dX2_takeItem_32 : decode cX2_takeItem 32 = .ok (.iload_n 2, 1) := by decide +kernel
theorem dX2_takeItem_33 : decode cX2_takeItem 33 = .ok (.bipush 7, 2) := by decide +kernel
theorem dX2_takeItem_35 : decode cX2_takeItem 35 = .ok (.isub, 1) := by decide +kernel
theorem dX2_takeItem_36 : decode cX2_takeItem 36 = .ok (.invokevirtual 67, 3) := by decide +kernel
theorem dX2_takeItem_39 : decode cX2_takeItem 39 = .ok (.ireturn, 1) := by decide +kernel
theorem dX2_takeItem_40 : decode cX2_takeItem 40 = .ok (.iload_n 2, 1) := by decide +kernel
theorem dX2_takeItem_41 : decode cX2_takeItem 41 = .ok (.bipush 11, 2) := by decide +kernel
theorem dX2_takeItem_43 : decode cX2_takeItem 43 = .ok (.if_icmp .ne 9, 3) := by decide +kernel
theorem dX2_takeItem_46 : decode cX2_takeItem 46 = .ok (.aload_n 0, 1) := by decide +kernel
theorem dX2_takeItem_47 : decode cX2_takeItem 47 = .ok (.aload_n 1, 1) := by decide +kernel
theorem dX2_takeItem_48 : decode cX2_takeItem 48 = .ok (.invokevirtual 70, 3) := by decide +kernel
theorem dX2_takeItem_51 : decode cX2_takeItem 51 = .ok (.ireturn, 1) := by decide +kernel
theorem dX2_takeItem_52 : decode cX2_takeItem 52 = .ok (.iload_n 2, 1) := by decide +kernel
theorem dX2_takeItem_53 : decode cX2_takeItem 53 = .ok (.bipush 12, 2) := by decide +kernel
theorem dX2_takeItem_55 : decode cX2_takeItem 55 = .ok (.if_icmp .ne 15, 3) := by decide +kernel
theorem dX2_takeItem_58 : decode cX2_takeItem 58 = .ok (.aload_n 0, 1) := by decide +kernel
theorem dX2_takeItem_59 : decode cX2_takeItem 59 = .ok (.aload_n 1, 1) := by decide +kernel
theorem dX2_takeItem_60 : decode cX2_takeItem 60 = .ok (.invokevirtual 73, 3) := by decide +kernel
theorem dX2_takeItem_63 : decode cX2_takeItem 63 = .ok (.ifCond .eq 7, 3) := by decide +kernel
theorem dX2_takeItem_66 : decode cX2_takeItem 66 = .ok (.iconst 1, 1) := by decide +kernel
theorem dX2_takeItem_67 : decode cX2_takeItem 67 = .ok (.goto 4, 3) := by decide +kernel
theorem dX2_takeItem_70 : decode cX2_takeItem 70 = .ok (.iconst 0, 1) := by decide +kernel
theorem dX2_takeItem_71 : decode cX2_takeItem 71 = .ok (.ireturn, 1) := by decide +kernel
theorem dX2_takeWalker_0 : decode cX2_takeWalker 0 = .ok (.aload_n 1, 1) := by decide +kernel
theorem dX2_takeWalker_1 : decode cX2_takeWalker 1 = .ok (.iload_n 2, 1) := by decide +kernel
theorem dX2_takeWalker_2 : decode cX2_takeWalker 2 = .ok (.iconst 0, 1) := by decide +kernel
theorem dX2_takeWalker_3 : decode cX2_takeWalker 3 = .ok (.invokevirtual 76, 3) := by decide +kernel
theorem dX2_takeWalker_6 : decode cX2_takeWalker 6 = .ok (.istore_n 3, 1) := by decide +kernel
theorem dX2_takeWalker_7 : decode cX2_takeWalker 7 = .ok (.iload_n 3, 1) := by decide +kernel
theorem dX2_takeWalker_8 : decode cX2_takeWalker 8 = .ok (.ifCond .ge 5, 3) := by decide +kernel
theorem dX2_takeWalker_11 : decode cX2_takeWalker 11 = .ok (.iconst 0, 1) := by decide +kernel
theorem dX2_takeWalker_12 : decode cX2_takeWalker 12 = .ok (.ireturn, 1) := by decide +kernel
theorem dX2_takeWalker_13 : decode cX2_takeWalker 13 = .ok (.aload_n 0, 1) := by decide +kernel
theorem dX2_takeWalker_14 : decode cX2_takeWalker 14 = .ok (.dup, 1) := by decide +kernel
theorem dX2_takeWalker_15 : decode cX2_takeWalker 15 = .ok (.getfield 41, 3) := by decide +kernel
theorem dX2_takeWalker_18 : decode cX2_takeWalker 18 = .ok (.iconst 1, 1) := by decide +kernel
theorem dX2_takeWalker_19 : decode cX2_takeWalker 19 = .ok (.iadd, 1) := by decide +kernel
theorem dX2_takeWalker_20 : decode cX2_takeWalker 20 = .ok (.putfield 41, 3) := by decide +kernel
theorem dX2_takeWalker_23 : decode cX2_takeWalker 23 = .ok (.aload_n 0, 1) := by decide +kernel
theorem dX2_takeWalker_24 : decode cX2_takeWalker 24 = .ok (.bipush 13, 2) := by decide +kernel
theorem dX2_takeWalker_26 : decode cX2_takeWalker 26 = .ok (.invokevirtual 82, 3) := by decide +kernel
theorem dX2_takeWalker_29 : decode cX2_takeWalker 29 = .ok (.ifCond .eq 28, 3) := by decide +kernel
theorem dX2_takeWalker_32 : decode cX2_takeWalker 32 = .ok (.aload_n 0, 1) := by decide +kernel
theorem dX2_takeWalker_33 : decode cX2_takeWalker 33 = .ok (.bipush 8, 2) := by decide +kernel
theorem dX2_takeWalker_35 : decode cX2_takeWalker 35 = .ok (.invokevirtual 86, 3) := by decide +kernel
theorem dX2_takeWalker_38 : decode cX2_takeWalker 38 = .ok (.istore 4, 2) := by decide +kernel
theorem dX2_takeWalker_40 : decode cX2_takeWalker 40 = .ok (.iload 4, 2) := by decide +kernel
theorem dX2_takeWalker_42 : decode cX2_takeWalker 42 = .ok (.ifCond .ge 5, 3) := by decide +kernel
theorem dX2_takeWalker_45 : decode cX2_takeWalker 45 = .ok (.iconst 0, 1) := by decide +kernel
theorem dX2_takeWalker_46 : decode cX2_takeWalker 46 = .ok (.ireturn, 1) := by decide +kernel
theorem dX2_takeWalker_47 : decode cX2_takeWalker 47 = .ok (.aload_n 1, 1) := by decide +kernel
theorem dX2_takeWalker_48 : decode cX2_takeWalker 48 = .ok (.getfield 90, 3) := by decide +kernel
theorem dX2_takeWalker_51 : decode cX2_takeWalker 51 = .ok (.iconst 1, 1) := by decide +kernel
theorem dX2_takeWalker_52 : decode cX2_takeWalker 52 = .ok (.aaload, 1) := by decide +kernel
theorem dX2_takeWalker_53 : decode cX2_takeWalker 53 = .ok (.iload_n 3, 1) := by decide +kernel
theorem dX2_takeWalker_54 : decode cX2_takeWalker 54 = .ok (.iload 4, 2) := by decide +kernel
theorem dX2_takeWalker_56 : decode cX2_takeWalker 56 = .ok (.iastore, 1) := by decide +kernel
theorem dX2_takeWalker_57 : decode cX2_takeWalker 57 = .ok (.aload_n 0, 1) := by decide +kernel
theorem dX2_takeWalker_58 : decode cX2_takeWalker 58 = .ok (.bipush 14, 2) := by decide +kernel
theorem dX2_takeWalker_60 : decode cX2_takeWalker 60 = .ok (.invokevirtual 82, 3) := by decide +kernel
theorem dX2_takeWalker_63 : decode cX2_takeWalker 63 = .ok (.ifCond .eq 12, 3) := by decide +kernel
theorem dX2_takeWalker_66 : decode cX2_takeWalker 66 = .ok (.aload_n 1, 1) := by decide +kernel
theorem dX2_takeWalker_67 : decode cX2_takeWalker 67 = .ok (.getfield 90, 3) := by decide +kernel
theorem dX2_takeWalker_70 : decode cX2_takeWalker 70 = .ok (.iconst 2, 1) := by decide +kernel
theorem dX2_takeWalker_71 : decode cX2_takeWalker 71 = .ok (.aaload, 1) := by decide +kernel
theorem dX2_takeWalker_72 : decode cX2_takeWalker 72 = .ok (.iload_n 3, 1) := by decide +kernel
theorem dX2_takeWalker_73 : decode cX2_takeWalker 73 = .ok (.iconst 1, 1) := by decide +kernel
theorem dX2_takeWalker_74 : decode cX2_takeWalker 74 = .ok (.iastore, 1) := by decide +kernel
theorem dX2_takeWalker_75 : decode cX2_takeWalker 75 = .ok (.aload_n 0, 1) := by decide +kernel
theorem dX2_takeWalker_76 : decode cX2_takeWalker 76 = .ok (.bipush 15, 2) := by decide +kernel
theorem dX2_takeWalker_78 : decode cX2_takeWalker 78 = .ok (.invokevirtual 82, 3) := by decide +kernel
theorem dX2_takeWalker_81 : decode cX2_takeWalker 81 = .ok (.ifCond .eq 28, 3) := by decide +kernel
theorem dX2_takeWalker_84 : decode cX2_takeWalker 84 = .ok (.aload_n 0, 1) := by decide +kernel
theorem dX2_takeWalker_85 : decode cX2_takeWalker 85 = .ok (.bipush 9, 2) := by decide +kernel
theorem dX2_takeWalker_87 : decode cX2_takeWalker 87 = .ok (.invokevirtual 86, 3) := by decide +kernel
theorem dX2_takeWalker_90 : decode cX2_takeWalker 90 = .ok (.istore 4, 2) := by decide +kernel
theorem dX2_takeWalker_92 : decode cX2_takeWalker 92 = .ok (.iload 4, 2) := by decide +kernel
theorem dX2_takeWalker_94 : decode cX2_takeWalker 94 = .ok (.ifCond .ge 5, 3) := by decide +kernel
theorem dX2_takeWalker_97 : decode cX2_takeWalker 97 = .ok (.iconst 0, 1) := by decide +kernel
theorem dX2_takeWalker_98 : decode cX2_takeWalker 98 = .ok (.ireturn, 1) := by decide +kernel
theorem dX2_takeWalker_99 : decode cX2_takeWalker 99 = .ok (.aload_n 1, 1) := by decide +kernel
theorem dX2_takeWalker_100 : decode cX2_takeWalker 100 = .ok (.getfield 90, 3) := by decide +kernel
theorem dX2_takeWalker_103 : decode cX2_takeWalker 103 = .ok (.iconst 3, 1) := by decide +kernel
theorem dX2_takeWalker_104 : decode cX2_takeWalker 104 = .ok (.aaload, 1) := by decide +kernel
theorem dX2_takeWalker_105 : decode cX2_takeWalker 105 = .ok (.iload_n 3, 1) := by decide +kernel
theorem dX2_takeWalker_106 : decode cX2_takeWalker 106 = .ok (.iload 4, 2) := by decide +kernel
theorem dX2_takeWalker_108 : decode cX2_takeWalker 108 = .ok (.iastore, 1) := by decide +kernel
theorem dX2_takeWalker_109 : decode cX2_takeWalker 109 = .ok (.iconst 1, 1) := by decide +kernel
theorem dX2_takeWalker_110 : decode cX2_takeWalker 110 = .ok (.ireturn, 1) := by decide +kernel
theorem dX2_takeGate_0 : decode cX2_takeGate 0 = .ok (.aload_n 0, 1) := by decide +kernel
theorem dX2_takeGate_1 : decode cX2_takeGate 1 = .ok (.dup, 1) := by decide +kernel
theorem dX2_takeGate_2 : decode cX2_takeGate 2 = .ok (.getfield 41, 3) := by decide +kernel
theorem dX2_takeGate_5 : decode cX2_takeGate 5 = .ok (.iconst 1, 1) := by decide +kernel
theorem dX2_takeGate_6 : decode cX2_takeGate 6 = .ok (.iadd, 1) := by decide +kernel
theorem dX2_takeGate_7 : decode cX2_takeGate 7 = .ok (.putfield 41, 3) := by decide +kernel
theorem dX2_takeGate_10 : decode cX2_takeGate 10 = .ok (.aload_n 0, 1) := by decide +kernel
theorem dX2_takeGate_11 : decode cX2_takeGate 11 = .ok (.bipush 7, 2) := by decide +kernel
theorem dX2_takeGate_13 : decode cX2_takeGate 13 = .ok (.invokevirtual 86, 3) := by decide +kernel
theorem dX2_takeGate_16 : decode cX2_takeGate 16 = .ok (.istore_n 3, 1) := by decide +kernel
theorem dX2_takeGate_17 : decode cX2_takeGate 17 = .ok (.iload_n 3, 1) := by decide +kernel
theorem dX2_takeGate_18 : decode cX2_takeGate 18 = .ok (.ifCond .ge 5, 3) := by decide +kernel
theorem dX2_takeGate_21 : decode cX2_takeGate 21 = .ok (.iconst 0, 1) := by decide +kernel
theorem dX2_takeGate_22 : decode cX2_takeGate 22 = .ok (.ireturn, 1) := by decide +kernel
theorem dX2_takeGate_23 : decode cX2_takeGate 23 = .ok (.aload_n 1, 1) := by decide +kernel
theorem dX2_takeGate_24 : decode cX2_takeGate 24 = .ok (.getfield 94, 3) := by decide +kernel
theorem dX2_takeGate_27 : decode cX2_takeGate 27 = .ok (.iload_n 3, 1) := by decide +kernel
theorem dX2_takeGate_28 : decode cX2_takeGate 28 = .ok (.iload_n 2, 1) := by decide +kernel
theorem dX2_takeGate_29 : decode cX2_takeGate 29 = .ok (.iastore, 1) := by decide +kernel
theorem dX2_takeGate_30 : decode cX2_takeGate 30 = .ok (.iconst 1, 1) := by decide +kernel
theorem dX2_takeGate_31 : decode cX2_takeGate 31 = .ok (.ireturn, 1) := by decide +kernel
theorem dX2_takeBeasts_0 : decode cX2_takeBeasts 0 = .ok (.aload_n 0, 1) := by decide +kernel
theorem dX2_takeBeasts_1 : decode cX2_takeBeasts 1 = .ok (.dup, 1) := by decide +kernel
theorem dX2_takeBeasts_2 : decode cX2_takeBeasts 2 = .ok (.getfield 41, 3) := by decide +kernel
theorem dX2_takeBeasts_5 : decode cX2_takeBeasts 5 = .ok (.iconst 1, 1) := by decide +kernel
theorem dX2_takeBeasts_6 : decode cX2_takeBeasts 6 = .ok (.iadd, 1) := by decide +kernel
theorem dX2_takeBeasts_7 : decode cX2_takeBeasts 7 = .ok (.putfield 41, 3) := by decide +kernel
theorem dX2_takeBeasts_10 : decode cX2_takeBeasts 10 = .ok (.aload_n 0, 1) := by decide +kernel
theorem dX2_takeBeasts_11 : decode cX2_takeBeasts 11 = .ok (.bipush 8, 2) := by decide +kernel
theorem dX2_takeBeasts_13 : decode cX2_takeBeasts 13 = .ok (.invokevirtual 86, 3) := by decide +kernel
theorem dX2_takeBeasts_16 : decode cX2_takeBeasts 16 = .ok (.istore_n 2, 1) := by decide +kernel
theorem dX2_takeBeasts_17 : decode cX2_takeBeasts 17 = .ok (.iload_n 2, 1) := by decide +kernel
theorem dX2_takeBeasts_18 : decode cX2_takeBeasts 18 = .ok (.ifCond .ge 5, 3) := by decide +kernel
theorem dX2_takeBeasts_21 : decode cX2_takeBeasts 21 = .ok (.iconst 0, 1) := by decide +kernel
theorem dX2_takeBeasts_22 : decode cX2_takeBeasts 22 = .ok (.ireturn, 1) := by decide +kernel
theorem dX2_takeBeasts_23 : decode cX2_takeBeasts 23 = .ok (.aload_n 0, 1) := by decide +kernel
theorem dX2_takeBeasts_24 : decode cX2_takeBeasts 24 = .ok (.sipush 9999, 3) := by decide +kernel
theorem dX2_takeBeasts_27 : decode cX2_takeBeasts 27 = .ok (.invokevirtual 86, 3) := by decide +kernel
theorem dX2_takeBeasts_30 : decode cX2_takeBeasts 30 = .ok (.istore_n 3, 1) := by decide +kernel
theorem dX2_takeBeasts_31 : decode cX2_takeBeasts 31 = .ok (.iload_n 3, 1) := by decide +kernel
theorem dX2_takeBeasts_32 : decode cX2_takeBeasts 32 = .ok (.ifCond .ge 5, 3) := by decide +kernel
theorem dX2_takeBeasts_35 : decode cX2_takeBeasts 35 = .ok (.iconst 0, 1) := by decide +kernel
theorem dX2_takeBeasts_36 : decode cX2_takeBeasts 36 = .ok (.ireturn, 1) := by decide +kernel
theorem dX2_takeBeasts_37 : decode cX2_takeBeasts 37 = .ok (.aload_n 1, 1) := by decide +kernel
theorem dX2_takeBeasts_38 : decode cX2_takeBeasts 38 = .ok (.getfield 97, 3) := by decide +kernel
theorem dX2_takeBeasts_41 : decode cX2_takeBeasts 41 = .ok (.iload_n 2, 1) := by decide +kernel
theorem dX2_takeBeasts_42 : decode cX2_takeBeasts 42 = .ok (.iload_n 3, 1) := by decide +kernel
theorem dX2_takeBeasts_43 : decode cX2_takeBeasts 43 = .ok (.iastore, 1) := by decide +kernel
theorem dX2_takeBeasts_44 : decode cX2_takeBeasts 44 = .ok (.iconst 1, 1) := by decide +kernel
theorem dX2_takeBeasts_45 : decode cX2_takeBeasts 45 = .ok (.ireturn, 1) := by decide +kernel
theorem dX2_takeWind_0 : decode cX2_takeWind 0 = .ok (.aload_n 0, 1) := by decide +kernel
theorem dX2_takeWind_1 : decode cX2_takeWind 1 = .ok (.dup, 1) := by decide +kernel
theorem dX2_takeWind_2 : decode cX2_takeWind 2 = .ok (.getfield 41, 3) := by decide +kernel
theorem dX2_takeWind_5 : decode cX2_takeWind 5 = .ok (.iconst 1, 1) := by decide +kernel
theorem dX2_takeWind_6 : decode cX2_takeWind 6 = .ok (.iadd, 1) := by decide +kernel
theorem dX2_takeWind_7 : decode cX2_takeWind 7 = .ok (.putfield 41, 3) := by decide +kernel
theorem dX2_takeWind_10 : decode cX2_takeWind 10 = .ok (.aload_n 0, 1) := by decide +kernel
theorem dX2_takeWind_11 : decode cX2_takeWind 11 = .ok (.bipush 9, 2) := by decide +kernel
theorem dX2_takeWind_13 : decode cX2_takeWind 13 = .ok (.invokevirtual 86, 3) := by decide +kernel
theorem dX2_takeWind_16 : decode cX2_takeWind 16 = .ok (.istore_n 2, 1) := by decide +kernel
theorem dX2_takeWind_17 : decode cX2_takeWind 17 = .ok (.iload_n 2, 1) := by decide +kernel
theorem dX2_takeWind_18 : decode cX2_takeWind 18 = .ok (.ifCond .ge 5, 3) := by decide +kernel
theorem dX2_takeWind_21 : decode cX2_takeWind 21 = .ok (.iconst 0, 1) := by decide +kernel
theorem dX2_takeWind_22 : decode cX2_takeWind 22 = .ok (.ireturn, 1) := by decide +kernel
theorem dX2_takeWind_23 : decode cX2_takeWind 23 = .ok (.aload_n 1, 1) := by decide +kernel
theorem dX2_takeWind_24 : decode cX2_takeWind 24 = .ok (.iload_n 2, 1) := by decide +kernel
theorem dX2_takeWind_25 : decode cX2_takeWind 25 = .ok (.putfield 100, 3) := by decide +kernel
theorem dX2_takeWind_28 : decode cX2_takeWind 28 = .ok (.iconst 1, 1) := by decide +kernel
theorem dX2_takeWind_29 : decode cX2_takeWind 29 = .ok (.ireturn, 1) := by decide +kernel
theorem dX2_takeWord_0 : decode cX2_takeWord 0 = .ok (.aload_n 0, 1) := by decide +kernel
theorem dX2_takeWord_1 : decode cX2_takeWord 1 = .ok (.invokevirtual 59, 3) := by decide +kernel
theorem dX2_takeWord_4 : decode cX2_takeWord 4 = .ok (.iload_n 1, 1) := by decide +kernel
theorem dX2_takeWord_5 : decode cX2_takeWord 5 = .ok (.if_icmp .eq 5, 3) := by decide +kernel
theorem dX2_takeWord_8 : decode cX2_takeWord 8 = .ok (.iconst 0, 1) := by decide +kernel
theorem dX2_takeWord_9 : decode cX2_takeWord 9 = .ok (.ireturn, 1) := by decide +kernel
theorem dX2_takeWord_10 : decode cX2_takeWord 10 = .ok (.aload_n 0, 1) := by decide +kernel
theorem dX2_takeWord_11 : decode cX2_takeWord 11 = .ok (.dup, 1) := by decide +kernel
theorem dX2_takeWord_12 : decode cX2_takeWord 12 = .ok (.getfield 41, 3) := by decide +kernel
theorem dX2_takeWord_15 : decode cX2_takeWord 15 = .ok (.iconst 1, 1) := by decide +kernel
theorem dX2_takeWord_16 : decode cX2_takeWord 16 = .ok (.iadd, 1) := by decide +kernel
theorem dX2_takeWord_17 : decode cX2_takeWord 17 = .ok (.putfield 41, 3) := by decide +kernel
theorem dX2_takeWord_20 : decode cX2_takeWord 20 = .ok (.iconst 1, 1) := by decide +kernel
theorem dX2_takeWord_21 : decode cX2_takeWord 21 = .ok (.ireturn, 1) := by decide +kernel
theorem dX2_takeNumber_0 : decode cX2_takeNumber 0 = .ok (.aload_n 0, 1) := by decide +kernel
theorem dX2_takeNumber_1 : decode cX2_takeNumber 1 = .ok (.getfield 31, 3) := by decide +kernel
theorem dX2_takeNumber_4 : decode cX2_takeNumber 4 = .ok (.aload_n 0, 1) := by decide +kernel
theorem dX2_takeNumber_5 : decode cX2_takeNumber 5 = .ok (.getfield 41, 3) := by decide +kernel
theorem dX2_takeNumber_8 : decode cX2_takeNumber 8 = .ok (.iaload, 1) := by decide +kernel
theorem dX2_takeNumber_9 : decode cX2_takeNumber 9 = .ok (.iconst 1, 1) := by decide +kernel
theorem dX2_takeNumber_10 : decode cX2_takeNumber 10 = .ok (.if_icmp .eq 5, 3) := by decide +kernel
theorem dX2_takeNumber_13 : decode cX2_takeNumber 13 = .ok (.iconst (-1), 1) := by decide +kernel
theorem dX2_takeNumber_14 : decode cX2_takeNumber 14 = .ok (.ireturn, 1) := by decide +kernel
theorem dX2_takeNumber_15 : decode cX2_takeNumber 15 = .ok (.iconst 0, 1) := by decide +kernel
theorem dX2_takeNumber_16 : decode cX2_takeNumber 16 = .ok (.istore_n 2, 1) := by decide +kernel
theorem dX2_takeNumber_17 : decode cX2_takeNumber 17 = .ok (.iconst 0, 1) := by decide +kernel
theorem dX2_takeNumber_18 : decode cX2_takeNumber 18 = .ok (.istore_n 3, 1) := by decide +kernel
theorem dX2_takeNumber_19 : decode cX2_takeNumber 19 = .ok (.iload_n 3, 1) := by decide +kernel
theorem dX2_takeNumber_20 : decode cX2_takeNumber 20 = .ok (.aload_n 0, 1) := by decide +kernel
theorem dX2_takeNumber_21 : decode cX2_takeNumber 21 = .ok (.getfield 38, 3) := by decide +kernel
theorem dX2_takeNumber_24 : decode cX2_takeNumber 24 = .ok (.aload_n 0, 1) := by decide +kernel
theorem dX2_takeNumber_25 : decode cX2_takeNumber 25 = .ok (.getfield 41, 3) := by decide +kernel
theorem dX2_takeNumber_28 : decode cX2_takeNumber 28 = .ok (.iaload, 1) := by decide +kernel
theorem dX2_takeNumber_29 : decode cX2_takeNumber 29 = .ok (.if_icmp .ge 44, 3) := by decide +kernel
theorem dX2_takeNumber_32 : decode cX2_takeNumber 32 = .ok (.aload_n 0, 1) := by decide +kernel
theorem dX2_takeNumber_33 : decode cX2_takeNumber 33 = .ok (.getfield 9, 3) := by decide +kernel
theorem dX2_takeNumber_36 : decode cX2_takeNumber 36 = .ok (.aload_n 0, 1) := by decide +kernel
theorem dX2_takeNumber_37 : decode cX2_takeNumber 37 = .ok (.getfield 35, 3) := by decide +kernel
theorem dX2_takeNumber_40 : decode cX2_takeNumber 40 = .ok (.aload_n 0, 1) := by decide +kernel
theorem dX2_takeNumber_41 : decode cX2_takeNumber 41 = .ok (.getfield 41, 3) := by decide +kernel
theorem dX2_takeNumber_44 : decode cX2_takeNumber 44 = .ok (.iaload, 1) := by decide +kernel
theorem dX2_takeNumber_45 : decode cX2_takeNumber 45 = .ok (.iload_n 3, 1) := by decide +kernel
theorem dX2_takeNumber_46 : decode cX2_takeNumber 46 = .ok (.iadd, 1) := by decide +kernel
theorem dX2_takeNumber_47 : decode cX2_takeNumber 47 = .ok (.baload, 1) := by decide +kernel
theorem dX2_takeNumber_48 : decode cX2_takeNumber 48 = .ok (.bipush 48, 2) := by decide +kernel
theorem dX2_takeNumber_50 : decode cX2_takeNumber 50 = .ok (.isub, 1) := by decide +kernel
theorem dX2_takeNumber_51 : decode cX2_takeNumber 51 = .ok (.istore 4, 2) := by decide +kernel
theorem dX2_takeNumber_53 : decode cX2_takeNumber 53 = .ok (.iload_n 2, 1) := by decide +kernel
theorem dX2_takeNumber_54 : decode cX2_takeNumber 54 = .ok (.bipush 10, 2) := by decide +kernel
theorem dX2_takeNumber_56 : decode cX2_takeNumber 56 = .ok (.imul, 1) := by decide +kernel
theorem dX2_takeNumber_57 : decode cX2_takeNumber 57 = .ok (.iload 4, 2) := by decide +kernel
theorem dX2_takeNumber_59 : decode cX2_takeNumber 59 = .ok (.iadd, 1) := by decide +kernel
theorem dX2_takeNumber_60 : decode cX2_takeNumber 60 = .ok (.sipush 10000, 3) := by decide +kernel
theorem dX2_takeNumber_63 : decode cX2_takeNumber 63 = .ok (.invokestatic 103, 3) := by decide +kernel
theorem dX2_takeNumber_66 : decode cX2_takeNumber 66 = .ok (.istore_n 2, 1) := by decide +kernel
theorem dX2_takeNumber_67 : decode cX2_takeNumber 67 = .ok (.iinc 3 1, 3) := by decide +kernel
theorem dX2_takeNumber_70 : decode cX2_takeNumber 70 = .ok (.goto (-51), 3) := by decide +kernel
theorem dX2_takeNumber_73 : decode cX2_takeNumber 73 = .ok (.iload_n 2, 1) := by decide +kernel
theorem dX2_takeNumber_74 : decode cX2_takeNumber 74 = .ok (.iload_n 1, 1) := by decide +kernel
theorem dX2_takeNumber_75 : decode cX2_takeNumber 75 = .ok (.if_icmp .le 5, 3) := by decide +kernel
theorem dX2_takeNumber_78 : decode cX2_takeNumber 78 = .ok (.iconst (-1), 1) := by decide +kernel
theorem dX2_takeNumber_79 : decode cX2_takeNumber 79 = .ok (.ireturn, 1) := by decide +kernel
theorem dX2_takeNumber_80 : decode cX2_takeNumber 80 = .ok (.aload_n 0, 1) := by decide +kernel
theorem dX2_takeNumber_81 : decode cX2_takeNumber 81 = .ok (.dup, 1) := by decide +kernel
theorem dX2_takeNumber_82 : decode cX2_takeNumber 82 = .ok (.getfield 41, 3) := by decide +kernel
theorem dX2_takeNumber_85 : decode cX2_takeNumber 85 = .ok (.iconst 1, 1) := by decide +kernel
theorem dX2_takeNumber_86 : decode cX2_takeNumber 86 = .ok (.iadd, 1) := by decide +kernel
theorem dX2_takeNumber_87 : decode cX2_takeNumber 87 = .ok (.putfield 41, 3) := by decide +kernel
theorem dX2_takeNumber_90 : decode cX2_takeNumber 90 = .ok (.iload_n 2, 1) := by decide +kernel
theorem dX2_takeNumber_91 : decode cX2_takeNumber 91 = .ok (.ireturn, 1) := by decide +kernel
theorem dX2_wordAhead_0 : decode cX2_wordAhead 0 = .ok (.aload_n 0, 1) := by decide +kernel
theorem dX2_wordAhead_1 : decode cX2_wordAhead 1 = .ok (.getfield 31, 3) := by decide +kernel
theorem dX2_wordAhead_4 : decode cX2_wordAhead 4 = .ok (.aload_n 0, 1) := by decide +kernel
theorem dX2_wordAhead_5 : decode cX2_wordAhead 5 = .ok (.getfield 41, 3) := by decide +kernel
theorem dX2_wordAhead_8 : decode cX2_wordAhead 8 = .ok (.iaload, 1) := by decide +kernel
theorem dX2_wordAhead_9 : decode cX2_wordAhead 9 = .ok (.ifCond .ne 17, 3) := by decide +kernel
theorem dX2_wordAhead_12 : decode cX2_wordAhead 12 = .ok (.aload_n 0, 1) := by decide +kernel
theorem dX2_wordAhead_13 : decode cX2_wordAhead 13 = .ok (.getfield 38, 3) := by decide +kernel
theorem dX2_wordAhead_16 : decode cX2_wordAhead 16 = .ok (.aload_n 0, 1) := by decide +kernel
theorem dX2_wordAhead_17 : decode cX2_wordAhead 17 = .ok (.getfield 41, 3) := by decide +kernel
theorem dX2_wordAhead_20 : decode cX2_wordAhead 20 = .ok (.iaload, 1) := by decide +kernel
theorem dX2_wordAhead_21 : decode cX2_wordAhead 21 = .ok (.bipush 8, 2) := by decide +kernel
theorem dX2_wordAhead_23 : decode cX2_wordAhead 23 = .ok (.if_icmp .le 5, 3) := by decide +kernel
theorem dX2_wordAhead_26 : decode cX2_wordAhead 26 = .ok (.iconst (-1), 1) := by decide +kernel
theorem dX2_wordAhead_27 : decode cX2_wordAhead 27 = .ok (.ireturn, 1) := by decide +kernel
theorem dX2_wordAhead_28 : decode cX2_wordAhead 28 = .ok (.iconst 0, 1) := by decide +kernel
theorem dX2_wordAhead_29 : decode cX2_wordAhead 29 = .ok (.istore_n 1, 1) := by decide +kernel
theorem dX2_wordAhead_30 : decode cX2_wordAhead 30 = .ok (.iload_n 1, 1) := by decide +kernel
theorem dX2_wordAhead_31 : decode cX2_wordAhead 31 = .ok (.bipush 16, 2) := by decide +kernel
theorem dX2_wordAhead_33 : decode cX2_wordAhead 33 = .ok (.if_icmp .ge 19, 3) := by decide +kernel
theorem dX2_wordAhead_36 : decode cX2_wordAhead 36 = .ok (.aload_n 0, 1) := by decide +kernel
theorem dX2_wordAhead_37 : decode cX2_wordAhead 37 = .ok (.iload_n 1, 1) := by decide +kernel
theorem dX2_wordAhead_38 : decode cX2_wordAhead 38 = .ok (.invokevirtual 108, 3) := by decide +kernel
theorem dX2_wordAhead_41 : decode cX2_wordAhead 41 = .ok (.ifCond .eq 5, 3) := by decide +kernel
theorem dX2_wordAhead_44 : decode cX2_wordAhead 44 = .ok (.iload_n 1, 1) := by decide +kernel
theorem dX2_wordAhead_45 : decode cX2_wordAhead 45 = .ok (.ireturn, 1) := by decide +kernel
theorem dX2_wordAhead_46 : decode cX2_wordAhead 46 = .ok (.iinc 1 1, 3) := by decide +kernel
theorem dX2_wordAhead_49 : decode cX2_wordAhead 49 = .ok (.goto (-19), 3) := by decide +kernel
theorem dX2_wordAhead_52 : decode cX2_wordAhead 52 = .ok (.iconst (-1), 1) := by decide +kernel
theorem dX2_wordAhead_53 : decode cX2_wordAhead 53 = .ok (.ireturn, 1) := by decide +kernel
theorem dX2_isSpelt_0 : decode cX2_isSpelt 0 = .ok (.iconst 0, 1) := by decide +kernel
theorem dX2_isSpelt_1 : decode cX2_isSpelt 1 = .ok (.istore_n 2, 1) := by decide +kernel
theorem dX2_isSpelt_2 : decode cX2_isSpelt 2 = .ok (.iload_n 2, 1) := by decide +kernel
theorem dX2_isSpelt_3 : decode cX2_isSpelt 3 = .ok (.bipush 8, 2) := by decide +kernel
theorem dX2_isSpelt_5 : decode cX2_isSpelt 5 = .ok (.if_icmp .ge 61, 3) := by decide +kernel
theorem dX2_isSpelt_8 : decode cX2_isSpelt 8 = .ok (.iload_n 2, 1) := by decide +kernel
theorem dX2_isSpelt_9 : decode cX2_isSpelt 9 = .ok (.aload_n 0, 1) := by decide +kernel
theorem dX2_isSpelt_10 : decode cX2_isSpelt 10 = .ok (.getfield 38, 3) := by decide +kernel
theorem dX2_isSpelt_13 : decode cX2_isSpelt 13 = .ok (.aload_n 0, 1) := by decide +kernel
theorem dX2_isSpelt_14 : decode cX2_isSpelt 14 = .ok (.getfield 41, 3) := by decide +kernel
theorem dX2_isSpelt_17 : decode cX2_isSpelt 17 = .ok (.iaload, 1) := by decide +kernel
theorem dX2_isSpelt_18 : decode cX2_isSpelt 18 = .ok (.if_icmp .ge 22, 3) := by decide +kernel
theorem dX2_isSpelt_21 : decode cX2_isSpelt 21 = .ok (.aload_n 0, 1) := by decide +kernel
theorem dX2_isSpelt_22 : decode cX2_isSpelt 22 = .ok (.getfield 9, 3) := by decide +kernel
theorem dX2_isSpelt_25 : decode cX2_isSpelt 25 = .ok (.aload_n 0, 1) := by decide +kernel
theorem dX2_isSpelt_26 : decode cX2_isSpelt 26 = .ok (.getfield 35, 3) := by decide +kernel
theorem dX2_isSpelt_29 : decode cX2_isSpelt 29 = .ok (.aload_n 0, 1) := by decide +kernel
theorem dX2_isSpelt_30 : decode cX2_isSpelt 30 = .ok (.getfield 41, 3) := by decide +kernel
theorem dX2_isSpelt_33 : decode cX2_isSpelt 33 = .ok (.iaload, 1) := by decide +kernel
theorem dX2_isSpelt_34 : decode cX2_isSpelt 34 = .ok (.iload_n 2, 1) := by decide +kernel
theorem dX2_isSpelt_35 : decode cX2_isSpelt 35 = .ok (.iadd, 1) := by decide +kernel
theorem dX2_isSpelt_36 : decode cX2_isSpelt 36 = .ok (.baload, 1) := by decide +kernel
theorem dX2_isSpelt_37 : decode cX2_isSpelt 37 = .ok (.goto 5, 3) := by decide +kernel
theorem dX2_isSpelt_40 : decode cX2_isSpelt 40 = .ok (.bipush 32, 2) := by decide +kernel
theorem dX2_isSpelt_42 : decode cX2_isSpelt 42 = .ok (.istore_n 3, 1) := by decide +kernel
theorem dX2_isSpelt_43 : decode cX2_isSpelt 43 = .ok (.iload_n 3, 1) := by decide +kernel
theorem dX2_isSpelt_44 : decode cX2_isSpelt 44 = .ok (.aload_n 0, 1) := by decide +kernel
theorem dX2_isSpelt_45 : decode cX2_isSpelt 45 = .ok (.getfield 27, 3) := by decide +kernel
theorem dX2_isSpelt_48 : decode cX2_isSpelt 48 = .ok (.iload_n 1, 1) := by decide +kernel
theorem dX2_isSpelt_49 : decode cX2_isSpelt 49 = .ok (.bipush 8, 2) := by decide +kernel
theorem dX2_isSpelt_51 : decode cX2_isSpelt 51 = .ok (.imul, 1) := by decide +kernel
theorem dX2_isSpelt_52 : decode cX2_isSpelt 52 = .ok (.iload_n 2, 1) := by decide +kernel
theorem dX2_isSpelt_53 : decode cX2_isSpelt 53 = .ok (.iadd, 1) := by decide +kernel
theorem dX2_isSpelt_54 : decode cX2_isSpelt 54 = .ok (.caload, 1) := by decide +kernel
theorem dX2_isSpelt_55 : decode cX2_isSpelt 55 = .ok (.if_icmp .eq 5, 3) := by decide +kernel
theorem dX2_isSpelt_58 : decode cX2_isSpelt 58 = .ok (.iconst 0, 1) := by decide +kernel
theorem dX2_isSpelt_59 : decode cX2_isSpelt 59 = .ok (.ireturn, 1) := by decide +kernel
theorem dX2_isSpelt_60 : decode cX2_isSpelt 60 = .ok (.iinc 2 1, 3) := by decide +kernel
theorem dX2_isSpelt_63 : decode cX2_isSpelt 63 = .ok (.goto (-61), 3) := by decide +kernel
theorem dX2_isSpelt_66 : decode cX2_isSpelt 66 = .ok (.iconst 1, 1) := by decide +kernel
theorem dX2_isSpelt_67 : decode cX2_isSpelt 67 = .ok (.ireturn, 1) := by decide +kernel
theorem dJ6_numberOfTrailingZeros_0f7a4_0 : decode cJ6_numberOfTrailingZeros_0f7a4 0 = .ok (.iload_n 0, 1) := by decide +kernel
theorem dJ6_numberOfTrailingZeros_0f7a4_1 : decode cJ6_numberOfTrailingZeros_0f7a4 1 = .ok (.iconst (-1), 1) := by decide +kernel
theorem dJ6_numberOfTrailingZeros_0f7a4_2 : decode cJ6_numberOfTrailingZeros_0f7a4 2 = .ok (.ixor, 1) := by decide +kernel
theorem dJ6_numberOfTrailingZeros_0f7a4_3 : decode cJ6_numberOfTrailingZeros_0f7a4 3 = .ok (.iload_n 0, 1) := by decide +kernel
theorem dJ6_numberOfTrailingZeros_0f7a4_4 : decode cJ6_numberOfTrailingZeros_0f7a4 4 = .ok (.iconst 1, 1) := by decide +kernel
theorem dJ6_numberOfTrailingZeros_0f7a4_5 : decode cJ6_numberOfTrailingZeros_0f7a4 5 = .ok (.isub, 1) := by decide +kernel
theorem dJ6_numberOfTrailingZeros_0f7a4_6 : decode cJ6_numberOfTrailingZeros_0f7a4 6 = .ok (.iand, 1) := by decide +kernel
theorem dJ6_numberOfTrailingZeros_0f7a4_7 : decode cJ6_numberOfTrailingZeros_0f7a4 7 = .ok (.istore_n 0, 1) := by decide +kernel
theorem dJ6_numberOfTrailingZeros_0f7a4_8 : decode cJ6_numberOfTrailingZeros_0f7a4 8 = .ok (.iload_n 0, 1) := by decide +kernel
theorem dJ6_numberOfTrailingZeros_0f7a4_9 : decode cJ6_numberOfTrailingZeros_0f7a4 9 = .ok (.ifCond .gt 8, 3) := by decide +kernel
theorem dJ6_numberOfTrailingZeros_0f7a4_12 : decode cJ6_numberOfTrailingZeros_0f7a4 12 = .ok (.iload_n 0, 1) := by decide +kernel
theorem dJ6_numberOfTrailingZeros_0f7a4_13 : decode cJ6_numberOfTrailingZeros_0f7a4 13 = .ok (.bipush 32, 2) := by decide +kernel
theorem dJ6_numberOfTrailingZeros_0f7a4_15 : decode cJ6_numberOfTrailingZeros_0f7a4 15 = .ok (.iand, 1) := by decide +kernel
theorem dJ6_numberOfTrailingZeros_0f7a4_16 : decode cJ6_numberOfTrailingZeros_0f7a4 16 = .ok (.ireturn, 1) := by decide +kernel
theorem dJ6_numberOfTrailingZeros_0f7a4_17 : decode cJ6_numberOfTrailingZeros_0f7a4 17 = .ok (.iconst 1, 1) := by decide +kernel
theorem dJ6_numberOfTrailingZeros_0f7a4_18 : decode cJ6_numberOfTrailingZeros_0f7a4 18 = .ok (.istore_n 1, 1) := by decide +kernel
theorem dJ6_numberOfTrailingZeros_0f7a4_19 : decode cJ6_numberOfTrailingZeros_0f7a4 19 = .ok (.iload_n 0, 1) := by decide +kernel
theorem dJ6_numberOfTrailingZeros_0f7a4_20 : decode cJ6_numberOfTrailingZeros_0f7a4 20 = .ok (.ldc_w 264, 3) := by decide +kernel
theorem dJ6_numberOfTrailingZeros_0f7a4_23 : decode cJ6_numberOfTrailingZeros_0f7a4 23 = .ok (.if_icmp .le 11, 3) := by decide +kernel
theorem dJ6_numberOfTrailingZeros_0f7a4_26 : decode cJ6_numberOfTrailingZeros_0f7a4 26 = .ok (.iinc 1 16, 3) := by decide +kernel
theorem dJ6_numberOfTrailingZeros_0f7a4_29 : decode cJ6_numberOfTrailingZeros_0f7a4 29 = .ok (.iload_n 0, 1) := by decide +kernel
theorem dJ6_numberOfTrailingZeros_0f7a4_30 : decode cJ6_numberOfTrailingZeros_0f7a4 30 = .ok (.bipush 16, 2) := by decide +kernel
theorem dJ6_numberOfTrailingZeros_0f7a4_32 : decode cJ6_numberOfTrailingZeros_0f7a4 32 = .ok (.iushr, 1) := by decide +kernel
theorem dJ6_numberOfTrailingZeros_0f7a4_33 : decode cJ6_numberOfTrailingZeros_0f7a4 33 = .ok (.istore_n 0, 1) := by decide +kernel
theorem dJ6_numberOfTrailingZeros_0f7a4_34 : decode cJ6_numberOfTrailingZeros_0f7a4 34 = .ok (.iload_n 0, 1) := by decide +kernel
theorem dJ6_numberOfTrailingZeros_0f7a4_35 : decode cJ6_numberOfTrailingZeros_0f7a4 35 = .ok (.sipush 256, 3) := by decide +kernel
theorem dJ6_numberOfTrailingZeros_0f7a4_38 : decode cJ6_numberOfTrailingZeros_0f7a4 38 = .ok (.if_icmp .le 11, 3) := by decide +kernel
theorem dJ6_numberOfTrailingZeros_0f7a4_41 : decode cJ6_numberOfTrailingZeros_0f7a4 41 = .ok (.iinc 1 8, 3) := by decide +kernel
theorem dJ6_numberOfTrailingZeros_0f7a4_44 : decode cJ6_numberOfTrailingZeros_0f7a4 44 = .ok (.iload_n 0, 1) := by decide +kernel
theorem dJ6_numberOfTrailingZeros_0f7a4_45 : decode cJ6_numberOfTrailingZeros_0f7a4 45 = .ok (.bipush 8, 2) := by decide +kernel
theorem dJ6_numberOfTrailingZeros_0f7a4_47 : decode cJ6_numberOfTrailingZeros_0f7a4 47 = .ok (.iushr, 1) := by decide +kernel
theorem dJ6_numberOfTrailingZeros_0f7a4_48 : decode cJ6_numberOfTrailingZeros_0f7a4 48 = .ok (.istore_n 0, 1) := by decide +kernel
theorem dJ6_numberOfTrailingZeros_0f7a4_49 : decode cJ6_numberOfTrailingZeros_0f7a4 49 = .ok (.iload_n 0, 1) := by decide +kernel
theorem dJ6_numberOfTrailingZeros_0f7a4_50 : decode cJ6_numberOfTrailingZeros_0f7a4 50 = .ok (.bipush 16, 2) := by decide +kernel
theorem dJ6_numberOfTrailingZeros_0f7a4_52 : decode cJ6_numberOfTrailingZeros_0f7a4 52 = .ok (.if_icmp .le 10, 3) := by decide +kernel
theorem dJ6_numberOfTrailingZeros_0f7a4_55 : decode cJ6_numberOfTrailingZeros_0f7a4 55 = .ok (.iinc 1 4, 3) := by decide +kernel
theorem dJ6_numberOfTrailingZeros_0f7a4_58 : decode cJ6_numberOfTrailingZeros_0f7a4 58 = .ok (.iload_n 0, 1) := by decide +kernel
theorem dJ6_numberOfTrailingZeros_0f7a4_59 : decode cJ6_numberOfTrailingZeros_0f7a4 59 = .ok (.iconst 4, 1) := by decide +kernel
theorem dJ6_numberOfTrailingZeros_0f7a4_60 : decode cJ6_numberOfTrailingZeros_0f7a4 60 = .ok (.iushr, 1) := by decide +kernel
theorem dJ6_numberOfTrailingZeros_0f7a4_61 : decode cJ6_numberOfTrailingZeros_0f7a4 61 = .ok (.istore_n 0, 1) := by decide +kernel
theorem dJ6_numberOfTrailingZeros_0f7a4_62 : decode cJ6_numberOfTrailingZeros_0f7a4 62 = .ok (.iload_n 0, 1) := by decide +kernel
theorem dJ6_numberOfTrailingZeros_0f7a4_63 : decode cJ6_numberOfTrailingZeros_0f7a4 63 = .ok (.iconst 4, 1) := by decide +kernel
theorem dJ6_numberOfTrailingZeros_0f7a4_64 : decode cJ6_numberOfTrailingZeros_0f7a4 64 = .ok (.if_icmp .le 10, 3) := by decide +kernel
theorem dJ6_numberOfTrailingZeros_0f7a4_67 : decode cJ6_numberOfTrailingZeros_0f7a4 67 = .ok (.iinc 1 2, 3) := by decide +kernel
theorem dJ6_numberOfTrailingZeros_0f7a4_70 : decode cJ6_numberOfTrailingZeros_0f7a4 70 = .ok (.iload_n 0, 1) := by decide +kernel
theorem dJ6_numberOfTrailingZeros_0f7a4_71 : decode cJ6_numberOfTrailingZeros_0f7a4 71 = .ok (.iconst 2, 1) := by decide +kernel
theorem dJ6_numberOfTrailingZeros_0f7a4_72 : decode cJ6_numberOfTrailingZeros_0f7a4 72 = .ok (.iushr, 1) := by decide +kernel
theorem dJ6_numberOfTrailingZeros_0f7a4_73 : decode cJ6_numberOfTrailingZeros_0f7a4 73 = .ok (.istore_n 0, 1) := by decide +kernel
theorem dJ6_numberOfTrailingZeros_0f7a4_74 : decode cJ6_numberOfTrailingZeros_0f7a4 74 = .ok (.iload_n 1, 1) := by decide +kernel
theorem dJ6_numberOfTrailingZeros_0f7a4_75 : decode cJ6_numberOfTrailingZeros_0f7a4 75 = .ok (.iload_n 0, 1) := by decide +kernel
theorem dJ6_numberOfTrailingZeros_0f7a4_76 : decode cJ6_numberOfTrailingZeros_0f7a4 76 = .ok (.iconst 1, 1) := by decide +kernel
theorem dJ6_numberOfTrailingZeros_0f7a4_77 : decode cJ6_numberOfTrailingZeros_0f7a4 77 = .ok (.iushr, 1) := by decide +kernel
theorem dJ6_numberOfTrailingZeros_0f7a4_78 : decode cJ6_numberOfTrailingZeros_0f7a4 78 = .ok (.iadd, 1) := by decide +kernel
theorem dJ6_numberOfTrailingZeros_0f7a4_79 : decode cJ6_numberOfTrailingZeros_0f7a4 79 = .ok (.ireturn, 1) := by decide +kernel
theorem dJ6_bitCount_0f7a4_0 : decode cJ6_bitCount_0f7a4 0 = .ok (.iload_n 0, 1) := by decide +kernel
theorem dJ6_bitCount_0f7a4_1 : decode cJ6_bitCount_0f7a4 1 = .ok (.iload_n 0, 1) := by decide +kernel
theorem dJ6_bitCount_0f7a4_2 : decode cJ6_bitCount_0f7a4 2 = .ok (.iconst 1, 1) := by decide +kernel
theorem dJ6_bitCount_0f7a4_3 : decode cJ6_bitCount_0f7a4 3 = .ok (.iushr, 1) := by decide +kernel
theorem dJ6_bitCount_0f7a4_4 : decode cJ6_bitCount_0f7a4 4 = .ok (.ldc_w 265, 3) := by decide +kernel
theorem dJ6_bitCount_0f7a4_7 : decode cJ6_bitCount_0f7a4 7 = .ok (.iand, 1) := by decide +kernel
theorem dJ6_bitCount_0f7a4_8 : decode cJ6_bitCount_0f7a4 8 = .ok (.isub, 1) := by decide +kernel
theorem dJ6_bitCount_0f7a4_9 : decode cJ6_bitCount_0f7a4 9 = .ok (.istore_n 0, 1) := by decide +kernel
theorem dJ6_bitCount_0f7a4_10 : decode cJ6_bitCount_0f7a4 10 = .ok (.iload_n 0, 1) := by decide +kernel
theorem dJ6_bitCount_0f7a4_11 : decode cJ6_bitCount_0f7a4 11 = .ok (.ldc_w 266, 3) := by decide +kernel
theorem dJ6_bitCount_0f7a4_14 : decode cJ6_bitCount_0f7a4 14 = .ok (.iand, 1) := by decide +kernel
theorem dJ6_bitCount_0f7a4_15 : decode cJ6_bitCount_0f7a4 15 = .ok (.iload_n 0, 1) := by decide +kernel
theorem dJ6_bitCount_0f7a4_16 : decode cJ6_bitCount_0f7a4 16 = .ok (.iconst 2, 1) := by decide +kernel
theorem dJ6_bitCount_0f7a4_17 : decode cJ6_bitCount_0f7a4 17 = .ok (.iushr, 1) := by decide +kernel
theorem dJ6_bitCount_0f7a4_18 : decode cJ6_bitCount_0f7a4 18 = .ok (.ldc_w 266, 3) := by decide +kernel
theorem dJ6_bitCount_0f7a4_21 : decode cJ6_bitCount_0f7a4 21 = .ok (.iand, 1) := by decide +kernel
theorem dJ6_bitCount_0f7a4_22 : decode cJ6_bitCount_0f7a4 22 = .ok (.iadd, 1) := by decide +kernel
theorem dJ6_bitCount_0f7a4_23 : decode cJ6_bitCount_0f7a4 23 = .ok (.istore_n 0, 1) := by decide +kernel
theorem dJ6_bitCount_0f7a4_24 : decode cJ6_bitCount_0f7a4 24 = .ok (.iload_n 0, 1) := by decide +kernel
theorem dJ6_bitCount_0f7a4_25 : decode cJ6_bitCount_0f7a4 25 = .ok (.iload_n 0, 1) := by decide +kernel
theorem dJ6_bitCount_0f7a4_26 : decode cJ6_bitCount_0f7a4 26 = .ok (.iconst 4, 1) := by decide +kernel
theorem dJ6_bitCount_0f7a4_27 : decode cJ6_bitCount_0f7a4 27 = .ok (.iushr, 1) := by decide +kernel
theorem dJ6_bitCount_0f7a4_28 : decode cJ6_bitCount_0f7a4 28 = .ok (.iadd, 1) := by decide +kernel
theorem dJ6_bitCount_0f7a4_29 : decode cJ6_bitCount_0f7a4 29 = .ok (.ldc_w 267, 3) := by decide +kernel
theorem dJ6_bitCount_0f7a4_32 : decode cJ6_bitCount_0f7a4 32 = .ok (.iand, 1) := by decide +kernel
theorem dJ6_bitCount_0f7a4_33 : decode cJ6_bitCount_0f7a4 33 = .ok (.istore_n 0, 1) := by decide +kernel
theorem dJ6_bitCount_0f7a4_34 : decode cJ6_bitCount_0f7a4 34 = .ok (.iload_n 0, 1) := by decide +kernel
theorem dJ6_bitCount_0f7a4_35 : decode cJ6_bitCount_0f7a4 35 = .ok (.iload_n 0, 1) := by decide +kernel
theorem dJ6_bitCount_0f7a4_36 : decode cJ6_bitCount_0f7a4 36 = .ok (.bipush 8, 2) := by decide +kernel
theorem dJ6_bitCount_0f7a4_38 : decode cJ6_bitCount_0f7a4 38 = .ok (.iushr, 1) := by decide +kernel
theorem dJ6_bitCount_0f7a4_39 : decode cJ6_bitCount_0f7a4 39 = .ok (.iadd, 1) := by decide +kernel
theorem dJ6_bitCount_0f7a4_40 : decode cJ6_bitCount_0f7a4 40 = .ok (.istore_n 0, 1) := by decide +kernel
theorem dJ6_bitCount_0f7a4_41 : decode cJ6_bitCount_0f7a4 41 = .ok (.iload_n 0, 1) := by decide +kernel
theorem dJ6_bitCount_0f7a4_42 : decode cJ6_bitCount_0f7a4 42 = .ok (.iload_n 0, 1) := by decide +kernel
theorem dJ6_bitCount_0f7a4_43 : decode cJ6_bitCount_0f7a4 43 = .ok (.bipush 16, 2) := by decide +kernel
theorem dJ6_bitCount_0f7a4_45 : decode cJ6_bitCount_0f7a4 45 = .ok (.iushr, 1) := by decide +kernel
theorem dJ6_bitCount_0f7a4_46 : decode cJ6_bitCount_0f7a4 46 = .ok (.iadd, 1) := by decide +kernel
theorem dJ6_bitCount_0f7a4_47 : decode cJ6_bitCount_0f7a4 47 = .ok (.istore_n 0, 1) := by decide +kernel
theorem dJ6_bitCount_0f7a4_48 : decode cJ6_bitCount_0f7a4 48 = .ok (.iload_n 0, 1) := by decide +kernel
theorem dJ6_bitCount_0f7a4_49 : decode cJ6_bitCount_0f7a4 49 = .ok (.bipush 63, 2) := by decide +kernel
theorem dJ6_bitCount_0f7a4_51 : decode cJ6_bitCount_0f7a4 51 = .ok (.iand, 1) := by decide +kernel
theorem dJ6_bitCount_0f7a4_52 : decode cJ6_bitCount_0f7a4 52 = .ok (.ireturn, 1) := by decide +kernel
theorem dJ9_max_7cf53_0 : decode cJ9_max_7cf53 0 = .ok (.iload_n 0, 1) := by decide +kernel
theorem dJ9_max_7cf53_1 : decode cJ9_max_7cf53 1 = .ok (.iload_n 1, 1) := by decide +kernel
theorem dJ9_max_7cf53_2 : decode cJ9_max_7cf53 2 = .ok (.if_icmp .lt 7, 3) := by decide +kernel
theorem dJ9_max_7cf53_5 : decode cJ9_max_7cf53 5 = .ok (.iload_n 0, 1) := by decide +kernel
theorem dJ9_max_7cf53_6 : decode cJ9_max_7cf53 6 = .ok (.goto 4, 3) := by decide +kernel
theorem dJ9_max_7cf53_9 : decode cJ9_max_7cf53 9 = .ok (.iload_n 1, 1) := by decide +kernel
theorem dJ9_max_7cf53_10 : decode cJ9_max_7cf53 10 = .ok (.ireturn, 1) := by decide +kernel
theorem dJ9_min_7cf53_0 : decode cJ9_min_7cf53 0 = .ok (.iload_n 0, 1) := by decide +kernel
theorem dJ9_min_7cf53_1 : decode cJ9_min_7cf53 1 = .ok (.iload_n 1, 1) := by decide +kernel
theorem dJ9_min_7cf53_2 : decode cJ9_min_7cf53 2 = .ok (.if_icmp .gt 7, 3) := by decide +kernel
theorem dJ9_min_7cf53_5 : decode cJ9_min_7cf53 5 = .ok (.iload_n 0, 1) := by decide +kernel
theorem dJ9_min_7cf53_6 : decode cJ9_min_7cf53 6 = .ok (.goto 4, 3) := by decide +kernel
theorem dJ9_min_7cf53_9 : decode cJ9_min_7cf53 9 = .ok (.iload_n 1, 1) := by decide +kernel
theorem dJ9_min_7cf53_10 : decode cJ9_min_7cf53 10 = .ok (.ireturn, 1) := by decide +kernel
theorem dJ0_toCharArray_70df3_0 : decode cJ0_toCharArray_70df3 0 = .ok (.aload_n 0, 1) := by decide +kernel
theorem dJ0_toCharArray_70df3_1 : decode cJ0_toCharArray_70df3 1 = .ok (.invokevirtual 492, 3) := by decide +kernel
theorem dJ0_toCharArray_70df3_4 : decode cJ0_toCharArray_70df3 4 = .ok (.ifCond .eq 13, 3) := by decide +kernel
theorem dJ0_toCharArray_70df3_7 : decode cJ0_toCharArray_70df3 7 = .ok (.aload_n 0, 1) := by decide +kernel
theorem dJ0_toCharArray_70df3_8 : decode cJ0_toCharArray_70df3 8 = .ok (.getfield 9, 3) := by decide +kernel
theorem dJ0_toCharArray_70df3_11 : decode cJ0_toCharArray_70df3 11 = .ok (.invokestatic 299, 3) := by decide +kernel
theorem dJ0_toCharArray_70df3_14 : decode cJ0_toCharArray_70df3 14 = .ok (.goto 10, 3) := by decide +kernel
theorem dJ0_toCharArray_70df3_17 : decode cJ0_toCharArray_70df3 17 = .ok (.aload_n 0, 1) := by decide +kernel
theorem dJ0_toCharArray_70df3_18 : decode cJ0_toCharArray_70df3 18 = .ok (.getfield 9, 3) := by decide +kernel
theorem dJ0_toCharArray_70df3_21 : decode cJ0_toCharArray_70df3 21 = .ok (.invokestatic 303, 3) := by decide +kernel
theorem dJ0_toCharArray_70df3_24 : decode cJ0_toCharArray_70df3 24 = .ok (.areturn, 1) := by decide +kernel
theorem dJ0_isLatin1_aae02_0 : decode cJ0_isLatin1_aae02 0 = .ok (.getstatic 38, 3) := by decide +kernel
theorem dJ0_isLatin1_aae02_3 : decode cJ0_isLatin1_aae02 3 = .ok (.ifCond .eq 14, 3) := by decide +kernel
theorem dJ0_isLatin1_aae02_6 : decode cJ0_isLatin1_aae02 6 = .ok (.aload_n 0, 1) := by decide +kernel
theorem dJ0_isLatin1_aae02_7 : decode cJ0_isLatin1_aae02 7 = .ok (.getfield 15, 3) := by decide +kernel
theorem dJ0_isLatin1_aae02_10 : decode cJ0_isLatin1_aae02 10 = .ok (.ifCond .ne 7, 3) := by decide +kernel
theorem dJ0_isLatin1_aae02_13 : decode cJ0_isLatin1_aae02 13 = .ok (.iconst 1, 1) := by decide +kernel
theorem dJ0_isLatin1_aae02_14 : decode cJ0_isLatin1_aae02 14 = .ok (.goto 4, 3) := by decide +kernel
theorem dJ0_isLatin1_aae02_17 : decode cJ0_isLatin1_aae02 17 = .ok (.iconst 0, 1) := by decide +kernel
theorem dJ0_isLatin1_aae02_18 : decode cJ0_isLatin1_aae02 18 = .ok (.ireturn, 1) := by decide +kernel
theorem dJ0_checkBoundsOffCount_cabcc_0 : decode cJ0_checkBoundsOffCount_cabcc 0 = .ok (.iload_n 0, 1) := by decide +kernel
theorem dJ0_checkBoundsOffCount_cabcc_1 : decode cJ0_checkBoundsOffCount_cabcc 1 = .ok (.iload_n 1, 1) := by decide +kernel
theorem dJ0_checkBoundsOffCount_cabcc_2 : decode cJ0_checkBoundsOffCount_cabcc 2 = .ok (.iload_n 2, 1) := by decide +kernel
theorem dJ0_checkBoundsOffCount_cabcc_3 : decode cJ0_checkBoundsOffCount_cabcc 3 = .ok (.getstatic 1053, 3) := by decide +kernel
theorem dJ0_checkBoundsOffCount_cabcc_6 : decode cJ0_checkBoundsOffCount_cabcc 6 = .ok (.invokestatic 1065, 3) := by decide +kernel
theorem dJ0_checkBoundsOffCount_cabcc_9 : decode cJ0_checkBoundsOffCount_cabcc 9 = .ok (.ireturn, 1) := by decide +kernel
theorem dJ1_toChars_9d188_0 : decode cJ1_toChars_9d188 0 = .ok (.aload_n 0, 1) := by decide +kernel
theorem dJ1_toChars_9d188_1 : decode cJ1_toChars_9d188 1 = .ok (.arraylength, 1) := by decide +kernel
theorem dJ1_toChars_9d188_2 : decode cJ1_toChars_9d188 2 = .ok (.newarray .char, 2) := by decide +kernel
theorem dJ1_toChars_9d188_4 : decode cJ1_toChars_9d188 4 = .ok (.astore_n 1, 1) := by decide +kernel
theorem dJ1_toChars_9d188_5 : decode cJ1_toChars_9d188 5 = .ok (.aload_n 0, 1) := by decide +kernel
theorem dJ1_toChars_9d188_6 : decode cJ1_toChars_9d188 6 = .ok (.iconst 0, 1) := by decide +kernel
theorem dJ1_toChars_9d188_7 : decode cJ1_toChars_9d188 7 = .ok (.aload_n 1, 1) := by decide +kernel
theorem dJ1_toChars_9d188_8 : decode cJ1_toChars_9d188 8 = .ok (.iconst 0, 1) := by decide +kernel
theorem dJ1_toChars_9d188_9 : decode cJ1_toChars_9d188 9 = .ok (.aload_n 0, 1) := by decide +kernel
theorem dJ1_toChars_9d188_10 : decode cJ1_toChars_9d188 10 = .ok (.arraylength, 1) := by decide +kernel
theorem dJ1_toChars_9d188_11 : decode cJ1_toChars_9d188 11 = .ok (.invokestatic 13, 3) := by decide +kernel
theorem dJ1_toChars_9d188_14 : decode cJ1_toChars_9d188 14 = .ok (.aload_n 1, 1) := by decide +kernel
theorem dJ1_toChars_9d188_15 : decode cJ1_toChars_9d188 15 = .ok (.areturn, 1) := by decide +kernel
theorem dJ1_inflate_03870_0 : decode cJ1_inflate_03870 0 = .ok (.iconst 0, 1) := by decide +kernel
theorem dJ1_inflate_03870_1 : decode cJ1_inflate_03870 1 = .ok (.istore 5, 2) := by decide +kernel
theorem dJ1_inflate_03870_3 : decode cJ1_inflate_03870 3 = .ok (.iload 5, 2) := by decide +kernel
theorem dJ1_inflate_03870_5 : decode cJ1_inflate_03870 5 = .ok (.iload 4, 2) := by decide +kernel
theorem dJ1_inflate_03870_7 : decode cJ1_inflate_03870 7 = .ok (.if_icmp .ge 26, 3) := by decide +kernel
theorem dJ1_inflate_03870_10 : decode cJ1_inflate_03870 10 = .ok (.aload_n 2, 1) := by decide +kernel
theorem dJ1_inflate_03870_11 : decode cJ1_inflate_03870 11 = .ok (.iload_n 3, 1) := by decide +kernel
theorem dJ1_inflate_03870_12 : decode cJ1_inflate_03870 12 = .ok (.iinc 3 1, 3) := by decide +kernel
theorem dJ1_inflate_03870_15 : decode cJ1_inflate_03870 15 = .ok (.aload_n 0, 1) := by decide +kernel
theorem dJ1_inflate_03870_16 : decode cJ1_inflate_03870 16 = .ok (.iload_n 1, 1) := by decide +kernel
theorem dJ1_inflate_03870_17 : decode cJ1_inflate_03870 17 = .ok (.iinc 1 1, 3) := by decide +kernel
theorem dJ1_inflate_03870_20 : decode cJ1_inflate_03870 20 = .ok (.baload, 1) := by decide +kernel
theorem dJ1_inflate_03870_21 : decode cJ1_inflate_03870 21 = .ok (.sipush 255, 3) := by decide +kernel
theorem dJ1_inflate_03870_24 : decode cJ1_inflate_03870 24 = .ok (.iand, 1) := by decide +kernel
theorem dJ1_inflate_03870_25 : decode cJ1_inflate_03870 25 = .ok (.i2c, 1) := by decide +kernel
theorem dJ1_inflate_03870_26 : decode cJ1_inflate_03870 26 = .ok (.castore, 1) := by decide +kernel
theorem dJ1_inflate_03870_27 : decode cJ1_inflate_03870 27 = .ok (.iinc 5 1, 3) := by decide +kernel
theorem dJ1_inflate_03870_30 : decode cJ1_inflate_03870 30 = .ok (.goto (-27), 3) := by decide +kernel
theorem dJ1_inflate_03870_33 : decode cJ1_inflate_03870 33 = .ok (.return_, 1) := by decide +kernel
theorem dJ2_getChar_3b067_0 : decode cJ2_getChar_3b067 0 = .ok (.getstatic 44, 3) := by decide +kernel
theorem dJ2_getChar_3b067_3 : decode cJ2_getChar_3b067 3 = .ok (.ifCond .ne 25, 3) := by decide +kernel
theorem dJ2_getChar_3b067_6 : decode cJ2_getChar_3b067 6 = .ok (.iload_n 1, 1) := by decide +kernel
theorem dJ2_getChar_3b067_7 : decode cJ2_getChar_3b067 7 = .ok (.ifCond .lt 11, 3) := by decide +kernel
theorem dJ2_getChar_3b067_10 : decode cJ2_getChar_3b067 10 = .ok (.iload_n 1, 1) := by decide +kernel
theorem dJ2_getChar_3b067_11 : decode cJ2_getChar_3b067 11 = .ok (.aload_n 0, 1) := by decide +kernel
theorem dJ2_getChar_3b067_12 : decode cJ2_getChar_3b067 12 = .ok (.invokestatic 48, 3) := by decide +kernel
theorem dJ2_getChar_3b067_15 : decode cJ2_getChar_3b067 15 = .ok (.if_icmp .lt 13, 3) := by decide +kernel
theorem dJ2_getChar_3b067_18 : decode cJ2_getChar_3b067 18 = .ok (.new 52, 3) := by decide +kernel
theorem dJ2_getChar_3b067_21 : decode cJ2_getChar_3b067 21 = .ok (.dup, 1) := by decide +kernel
theorem dJ2_getChar_3b067_22 : decode cJ2_getChar_3b067 22 = .ok (.ldc 54, 2) := by decide +kernel
theorem dJ2_getChar_3b067_24 : decode cJ2_getChar_3b067 24 = .ok (.invokespecial 56, 3) := by decide +kernel
theorem dJ2_getChar_3b067_27 : decode cJ2_getChar_3b067 27 = .ok (.athrow, 1) := by decide +kernel
theorem dJ2_getChar_3b067_28 : decode cJ2_getChar_3b067 28 = .ok (.iload_n 1, 1) := by decide +kernel
theorem dJ2_getChar_3b067_29 : decode cJ2_getChar_3b067 29 = .ok (.iconst 1, 1) := by decide +kernel
theorem dJ2_getChar_3b067_30 : decode cJ2_getChar_3b067 30 = .ok (.ishl, 1) := by decide +kernel
theorem dJ2_getChar_3b067_31 : decode cJ2_getChar_3b067 31 = .ok (.istore_n 1, 1) := by decide +kernel
theorem dJ2_getChar_3b067_32 : decode cJ2_getChar_3b067 32 = .ok (.aload_n 0, 1) := by decide +kernel
theorem dJ2_getChar_3b067_33 : decode cJ2_getChar_3b067 33 = .ok (.iload_n 1, 1) := by decide +kernel
theorem dJ2_getChar_3b067_34 : decode cJ2_getChar_3b067 34 = .ok (.iinc 1 1, 3) := by decide +kernel
theorem dJ2_getChar_3b067_37 : decode cJ2_getChar_3b067 37 = .ok (.baload, 1) := by decide +kernel
theorem dJ2_getChar_3b067_38 : decode cJ2_getChar_3b067 38 = .ok (.sipush 255, 3) := by decide +kernel
theorem dJ2_getChar_3b067_41 : decode cJ2_getChar_3b067 41 = .ok (.iand, 1) := by decide +kernel
theorem dJ2_getChar_3b067_42 : decode cJ2_getChar_3b067 42 = .ok (.getstatic 59, 3) := by decide +kernel
theorem dJ2_getChar_3b067_45 : decode cJ2_getChar_3b067 45 = .ok (.ishl, 1) := by decide +kernel
theorem dJ2_getChar_3b067_46 : decode cJ2_getChar_3b067 46 = .ok (.aload_n 0, 1) := by decide +kernel
theorem dJ2_getChar_3b067_47 : decode cJ2_getChar_3b067 47 = .ok (.iload_n 1, 1) := by decide +kernel
theorem dJ2_getChar_3b067_48 : decode cJ2_getChar_3b067 48 = .ok (.baload, 1) := by decide +kernel
theorem dJ2_getChar_3b067_49 : decode cJ2_getChar_3b067 49 = .ok (.sipush 255, 3) := by decide +kernel
theorem dJ2_getChar_3b067_52 : decode cJ2_getChar_3b067 52 = .ok (.iand, 1) := by decide +kernel
theorem dJ2_getChar_3b067_53 : decode cJ2_getChar_3b067 53 = .ok (.getstatic 63, 3) := by decide +kernel
theorem dJ2_getChar_3b067_56 : decode cJ2_getChar_3b067 56 = .ok (.ishl, 1) := by decide +kernel
theorem dJ2_getChar_3b067_57 : decode cJ2_getChar_3b067 57 = .ok (.ior, 1) := by decide +kernel
theorem dJ2_getChar_3b067_58 : decode cJ2_getChar_3b067 58 = .ok (.i2c, 1) := by decide +kernel
theorem dJ2_getChar_3b067_59 : decode cJ2_getChar_3b067 59 = .ok (.ireturn, 1) := by decide +kernel
theorem dJ2_length_9d52b_0 : decode cJ2_length_9d52b 0 = .ok (.aload_n 0, 1) := by decide +kernel
theorem dJ2_length_9d52b_1 : decode cJ2_length_9d52b 1 = .ok (.arraylength, 1) := by decide +kernel
theorem dJ2_length_9d52b_2 : decode cJ2_length_9d52b 2 = .ok (.iconst 1, 1) := by decide +kernel
theorem dJ2_length_9d52b_3 : decode cJ2_length_9d52b 3 = .ok (.ishr, 1) := by decide +kernel
theorem dJ2_length_9d52b_4 : decode cJ2_length_9d52b 4 = .ok (.ireturn, 1) := by decide +kernel
theorem dJ2_toChars_9d188_0 : decode cJ2_toChars_9d188 0 = .ok (.aload_n 0, 1) := by decide +kernel
theorem dJ2_toChars_9d188_1 : decode cJ2_toChars_9d188 1 = .ok (.arraylength, 1) := by decide +kernel
theorem dJ2_toChars_9d188_2 : decode cJ2_toChars_9d188 2 = .ok (.iconst 1, 1) := by decide +kernel
theorem dJ2_toChars_9d188_3 : decode cJ2_toChars_9d188 3 = .ok (.ishr, 1) := by decide +kernel
theorem dJ2_toChars_9d188_4 : decode cJ2_toChars_9d188 4 = .ok (.newarray .char, 2) := by decide +kernel
theorem dJ2_toChars_9d188_6 : decode cJ2_toChars_9d188 6 = .ok (.astore_n 1, 1) := by decide +kernel
theorem dJ2_toChars_9d188_7 : decode cJ2_toChars_9d188 7 = .ok (.aload_n 0, 1) := by decide +kernel
theorem dJ2_toChars_9d188_8 : decode cJ2_toChars_9d188 8 = .ok (.iconst 0, 1) := by decide +kernel
theorem dJ2_toChars_9d188_9 : decode cJ2_toChars_9d188 9 = .ok (.aload_n 1, 1) := by decide +kernel
theorem dJ2_toChars_9d188_10 : decode cJ2_toChars_9d188 10 = .ok (.arraylength, 1) := by decide +kernel
theorem dJ2_toChars_9d188_11 : decode cJ2_toChars_9d188 11 = .ok (.aload_n 1, 1) := by decide +kernel
theorem dJ2_toChars_9d188_12 : decode cJ2_toChars_9d188 12 = .ok (.iconst 0, 1) := by decide +kernel
theorem dJ2_toChars_9d188_13 : decode cJ2_toChars_9d188 13 = .ok (.invokestatic 103, 3) := by decide +kernel
theorem dJ2_toChars_9d188_16 : decode cJ2_toChars_9d188 16 = .ok (.aload_n 1, 1) := by decide +kernel
theorem dJ2_toChars_9d188_17 : decode cJ2_toChars_9d188 17 = .ok (.areturn, 1) := by decide +kernel
theorem dJ2_getChars_a1a8b_0 : decode cJ2_getChars_a1a8b 0 = .ok (.iload_n 1, 1) := by decide +kernel
theorem dJ2_getChars_a1a8b_1 : decode cJ2_getChars_a1a8b 1 = .ok (.iload_n 2, 1) := by decide +kernel
theorem dJ2_getChars_a1a8b_2 : decode cJ2_getChars_a1a8b 2 = .ok (.if_icmp .ge 11, 3) := by decide +kernel
theorem dJ2_getChars_a1a8b_5 : decode cJ2_getChars_a1a8b 5 = .ok (.iload_n 1, 1) := by decide +kernel
theorem dJ2_getChars_a1a8b_6 : decode cJ2_getChars_a1a8b 6 = .ok (.iload_n 2, 1) := by decide +kernel
theorem dJ2_getChars_a1a8b_7 : decode cJ2_getChars_a1a8b 7 = .ok (.iload_n 1, 1) := by decide +kernel
theorem dJ2_getChars_a1a8b_8 : decode cJ2_getChars_a1a8b 8 = .ok (.isub, 1) := by decide +kernel
theorem dJ2_getChars_a1a8b_9 : decode cJ2_getChars_a1a8b 9 = .ok (.aload_n 0, 1) := by decide +kernel
theorem dJ2_getChars_a1a8b_10 : decode cJ2_getChars_a1a8b 10 = .ok (.invokestatic 173, 3) := by decide +kernel
theorem dJ2_getChars_a1a8b_13 : decode cJ2_getChars_a1a8b 13 = .ok (.iload_n 1, 1) := by decide +kernel
theorem dJ2_getChars_a1a8b_14 : decode cJ2_getChars_a1a8b 14 = .ok (.istore 5, 2) := by decide +kernel
theorem dJ2_getChars_a1a8b_16 : decode cJ2_getChars_a1a8b 16 = .ok (.iload 5, 2) := by decide +kernel
theorem dJ2_getChars_a1a8b_18 : decode cJ2_getChars_a1a8b 18 = .ok (.iload_n 2, 1) := by decide +kernel
theorem dJ2_getChars_a1a8b_19 : decode cJ2_getChars_a1a8b 19 = .ok (.if_icmp .ge 22, 3) := by decide +kernel
theorem dJ2_getChars_a1a8b_22 : decode cJ2_getChars_a1a8b 22 = .ok (.aload_n 3, 1) := by decide +kernel
theorem dJ2_getChars_a1a8b_23 : decode cJ2_getChars_a1a8b 23 = .ok (.iload 4, 2) := by decide +kernel
theorem dJ2_getChars_a1a8b_25 : decode cJ2_getChars_a1a8b 25 = .ok (.iinc 4 1, 3) := by decide +kernel
theorem dJ2_getChars_a1a8b_28 : decode cJ2_getChars_a1a8b 28 = .ok (.aload_n 0, 1) := by decide +kernel
theorem dJ2_getChars_a1a8b_29 : decode cJ2_getChars_a1a8b 29 = .ok (.iload 5, 2) := by decide +kernel
theorem dJ2_getChars_a1a8b_31 : decode cJ2_getChars_a1a8b 31 = .ok (.invokestatic 71, 3) := by decide +kernel
theorem dJ2_getChars_a1a8b_34 : decode cJ2_getChars_a1a8b 34 = .ok (.castore, 1) := by decide +kernel
theorem dJ2_getChars_a1a8b_35 : decode cJ2_getChars_a1a8b 35 = .ok (.iinc 5 1, 3) := by decide +kernel
theorem dJ2_getChars_a1a8b_38 : decode cJ2_getChars_a1a8b 38 = .ok (.goto (-22), 3) := by decide +kernel
theorem dJ2_getChars_a1a8b_41 : decode cJ2_getChars_a1a8b 41 = .ok (.return_, 1) := by decide +kernel
theorem dJ2_checkBoundsOffCount_d044e_0 : decode cJ2_checkBoundsOffCount_d044e 0 = .ok (.iload_n 0, 1) := by decide +kernel
theorem dJ2_checkBoundsOffCount_d044e_1 : decode cJ2_checkBoundsOffCount_d044e 1 = .ok (.iload_n 1, 1) := by decide +kernel
theorem dJ2_checkBoundsOffCount_d044e_2 : decode cJ2_checkBoundsOffCount_d044e 2 = .ok (.aload_n 2, 1) := by decide +kernel
theorem dJ2_checkBoundsOffCount_d044e_3 : decode cJ2_checkBoundsOffCount_d044e 3 = .ok (.invokestatic 48, 3) := by decide +kernel
theorem dJ2_checkBoundsOffCount_d044e_6 : decode cJ2_checkBoundsOffCount_d044e 6 = .ok (.invokestatic 419, 3) := by decide +kernel
theorem dJ2_checkBoundsOffCount_d044e_9 : decode cJ2_checkBoundsOffCount_d044e 9 = .ok (.pop, 1) := by decide +kernel
theorem dJ2_checkBoundsOffCount_d044e_10 : decode cJ2_checkBoundsOffCount_d044e 10 = .ok (.return_, 1) := by decide +kernel
theorem dJ3_checkFromIndexSize_8c36e_0 : decode cJ3_checkFromIndexSize_8c36e 0 = .ok (.iload_n 2, 1) := by decide +kernel
theorem dJ3_checkFromIndexSize_8c36e_1 : decode cJ3_checkFromIndexSize_8c36e 1 = .ok (.iload_n 0, 1) := by decide +kernel
theorem dJ3_checkFromIndexSize_8c36e_2 : decode cJ3_checkFromIndexSize_8c36e 2 = .ok (.ior, 1) := by decide +kernel
theorem dJ3_checkFromIndexSize_8c36e_3 : decode cJ3_checkFromIndexSize_8c36e 3 = .ok (.iload_n 1, 1) := by decide +kernel
theorem dJ3_checkFromIndexSize_8c36e_4 : decode cJ3_checkFromIndexSize_8c36e 4 = .ok (.ior, 1) := by decide +kernel
theorem dJ3_checkFromIndexSize_8c36e_5 : decode cJ3_checkFromIndexSize_8c36e 5 = .ok (.ifCond .lt 10, 3) := by decide +kernel
theorem dJ3_checkFromIndexSize_8c36e_8 : decode cJ3_checkFromIndexSize_8c36e 8 = .ok (.iload_n 1, 1) := by decide +kernel
theorem dJ3_checkFromIndexSize_8c36e_9 : decode cJ3_checkFromIndexSize_8c36e 9 = .ok (.iload_n 2, 1) := by decide +kernel
theorem dJ3_checkFromIndexSize_8c36e_10 : decode cJ3_checkFromIndexSize_8c36e 10 = .ok (.iload_n 0, 1) := by decide +kernel
theorem dJ3_checkFromIndexSize_8c36e_11 : decode cJ3_checkFromIndexSize_8c36e 11 = .ok (.isub, 1) := by decide +kernel
theorem dJ3_checkFromIndexSize_8c36e_12 : decode cJ3_checkFromIndexSize_8c36e 12 = .ok (.if_icmp .le 11, 3) := by decide +kernel
theorem dJ3_checkFromIndexSize_8c36e_15 : decode cJ3_checkFromIndexSize_8c36e 15 = .ok (.aload_n 3, 1) := by decide +kernel
theorem dJ3_checkFromIndexSize_8c36e_16 : decode cJ3_checkFromIndexSize_8c36e 16 = .ok (.iload_n 0, 1) := by decide +kernel
theorem dJ3_checkFromIndexSize_8c36e_17 : decode cJ3_checkFromIndexSize_8c36e 17 = .ok (.iload_n 1, 1) := by decide +kernel
theorem dJ3_checkFromIndexSize_8c36e_18 : decode cJ3_checkFromIndexSize_8c36e 18 = .ok (.iload_n 2, 1) := by decide +kernel
theorem dJ3_checkFromIndexSize_8c36e_19 : decode cJ3_checkFromIndexSize_8c36e 19 = .ok (.invokestatic 103, 3) := by decide +kernel
theorem dJ3_checkFromIndexSize_8c36e_22 : decode cJ3_checkFromIndexSize_8c36e 22 = .ok (.athrow, 1) := by decide +kernel
theorem dJ3_checkFromIndexSize_8c36e_23 : decode cJ3_checkFromIndexSize_8c36e 23 = .ok (.iload_n 0, 1) := by decide +kernel
theorem dJ3_checkFromIndexSize_8c36e_24 : decode cJ3_checkFromIndexSize_8c36e 24 = .ok (.ireturn, 1) := by decide +kernel
end
section
theorem dX3_init_0 : decode cX3_init 0 = .ok (.aload_n 0, 1) := by decide +kernel
theorem dX3_init_1 : decode cX3_init 1 = .ok (.invokespecial 3, 3) := by decide +kernel
theorem dX3_init_4 : decode cX3_init 4 = .ok (.aload_n 0, 1) := by decide +kernel
theorem dX3_init_5 : decode cX3_init 5 = .ok (.new 9, 3) := by decide +kernel
theorem dX3_init_8 : decode cX3_init 8 = .ok (.dup, 1) := by decide +kernel
theorem dX3_init_9 : decode cX3_init 9 = .ok (.invokespecial 11, 3) := by decide +kernel
theorem dX3_init_12 : decode cX3_init 12 = .ok (.putfield 12, 3) := by decide +kernel
theorem dX3_init_15 : decode cX3_init 15 = .ok (.aload_n 0, 1) := by decide +kernel
theorem dX3_init_16 : decode cX3_init 16 = .ok (.new 9, 3) := by decide +kernel
theorem dX3_init_19 : decode cX3_init 19 = .ok (.dup, 1) := by decide +kernel
theorem dX3_init_20 : decode cX3_init 20 = .ok (.invokespecial 11, 3) := by decide +kernel
theorem dX3_init_23 : decode cX3_init 23 = .ok (.putfield 16, 3) := by decide +kernel
theorem dX3_init_26 : decode cX3_init 26 = .ok (.aload_n 0, 1) := by decide +kernel
theorem dX3_init_27 : decode cX3_init 27 = .ok (.new 9, 3) := by decide +kernel
theorem dX3_init_30 : decode cX3_init 30 = .ok (.dup, 1) := by decide +kernel
theorem dX3_init_31 : decode cX3_init 31 = .ok (.invokespecial 11, 3) := by decide +kernel
theorem dX3_init_34 : decode cX3_init 34 = .ok (.putfield 19, 3) := by decide +kernel
theorem dX3_init_37 : decode cX3_init 37 = .ok (.aload_n 0, 1) := by decide +kernel
theorem dX3_init_38 : decode cX3_init 38 = .ok (.iconst 0, 1) := by decide +kernel
theorem dX3_init_39 : decode cX3_init 39 = .ok (.putfield 22, 3) := by decide +kernel
theorem dX3_init_42 : decode cX3_init 42 = .ok (.aload_n 0, 1) := by decide +kernel
theorem dX3_init_43 : decode cX3_init 43 = .ok (.new 26, 3) := by decide +kernel
theorem dX3_init_46 : decode cX3_init 46 = .ok (.dup, 1) := by decide +kernel
theorem dX3_init_47 : decode cX3_init 47 = .ok (.invokespecial 28, 3) := by decide +kernel
theorem dX3_init_50 : decode cX3_init 50 = .ok (.putfield 29, 3) := by decide +kernel
theorem dX3_init_53 : decode cX3_init 53 = .ok (.aload_n 0, 1) := by decide +kernel
theorem dX3_init_54 : decode cX3_init 54 = .ok (.iconst 4, 1) := by decide +kernel
theorem dX3_init_55 : decode cX3_init 55 = .ok (.anewarray 33, 3) := by decide +kernel
theorem dX3_init_58 : decode cX3_init 58 = .ok (.putfield 35, 3) := by decide +kernel
theorem dX3_init_61 : decode cX3_init 61 = .ok (.iconst 0, 1) := by decide +kernel
theorem dX3_init_62 : decode cX3_init 62 = .ok (.istore_n 1, 1) := by decide +kernel
theorem dX3_init_63 : decode cX3_init 63 = .ok (.iload_n 1, 1) := by decide +kernel
theorem dX3_init_64 : decode cX3_init 64 = .ok (.iconst 4, 1) := by decide +kernel
theorem dX3_init_65 : decode cX3_init 65 = .ok (.if_icmp .ge 22, 3) := by decide +kernel
theorem dX3_init_68 : decode cX3_init 68 = .ok (.aload_n 0, 1) := by decide +kernel
theorem dX3_init_69 : decode cX3_init 69 = .ok (.getfield 35, 3) := by decide +kernel
theorem dX3_init_72 : decode cX3_init 72 = .ok (.iload_n 1, 1) := by decide +kernel
theorem dX3_init_73 : decode cX3_init 73 = .ok (.new 33, 3) := by decide +kernel
theorem dX3_init_76 : decode cX3_init 76 = .ok (.dup, 1) := by decide +kernel
theorem dX3_init_77 : decode cX3_init 77 = .ok (.invokespecial 39, 3) := by decide +kernel
theorem dX3_init_80 : decode cX3_init 80 = .ok (.aastore, 1) := by decide +kernel
theorem dX3_init_81 : decode cX3_init 81 = .ok (.iinc 1 1, 3) := by decide +kernel
theorem dX3_init_84 : decode cX3_init 84 = .ok (.goto (-21), 3) := by decide +kernel
theorem dX3_init_87 : decode cX3_init 87 = .ok (.aload_n 0, 1) := by decide +kernel
theorem dX3_init_88 : decode cX3_init 88 = .ok (.bipush 7, 2) := by decide +kernel
theorem dX3_init_90 : decode cX3_init 90 = .ok (.newarray .int, 2) := by decide +kernel
theorem dX3_init_92 : decode cX3_init 92 = .ok (.putfield 40, 3) := by decide +kernel
theorem dX3_init_95 : decode cX3_init 95 = .ok (.return_, 1) := by decide +kernel
theorem dX3_beasts_0 : decode cX3_beasts 0 = .ok (.iload_n 1, 1) := by decide +kernel
theorem dX3_beasts_1 : decode cX3_beasts 1 = .ok (.invokestatic 44, 3) := by decide +kernel
theorem dX3_beasts_4 : decode cX3_beasts 4 = .ok (.ifCond .eq 14, 3) := by decide +kernel
theorem dX3_beasts_7 : decode cX3_beasts 7 = .ok (.iload_n 2, 1) := by decide +kernel
theorem dX3_beasts_8 : decode cX3_beasts 8 = .ok (.iconst 0, 1) := by decide +kernel
theorem dX3_beasts_9 : decode cX3_beasts 9 = .ok (.sipush 9999, 3) := by decide +kernel
theorem dX3_beasts_12 : decode cX3_beasts 12 = .ok (.invokestatic 48, 3) := by decide +kernel
theorem dX3_beasts_15 : decode cX3_beasts 15 = .ok (.ifCond .ne 9, 3) := by decide +kernel
theorem dX3_beasts_18 : decode cX3_beasts 18 = .ok (.aload_n 0, 1) := by decide +kernel
theorem dX3_beasts_19 : decode cX3_beasts 19 = .ok (.iconst 0, 1) := by decide +kernel
theorem dX3_beasts_20 : decode cX3_beasts 20 = .ok (.invokevirtual 52, 3) := by decide +kernel
theorem dX3_beasts_23 : decode cX3_beasts 23 = .ok (.ireturn, 1) := by decide +kernel
theorem dX3_beasts_24 : decode cX3_beasts 24 = .ok (.aload_n 0, 1) := by decide +kernel
theorem dX3_beasts_25 : decode cX3_beasts 25 = .ok (.getfield 12, 3) := by decide +kernel
theorem dX3_beasts_28 : decode cX3_beasts 28 = .ok (.getfield 56, 3) := by decide +kernel
theorem dX3_beasts_31 : decode cX3_beasts 31 = .ok (.iload_n 1, 1) := by decide +kernel
theorem dX3_beasts_32 : decode cX3_beasts 32 = .ok (.iaload, 1) := by decide +kernel
theorem dX3_beasts_33 : decode cX3_beasts 33 = .ok (.istore_n 3, 1) := by decide +kernel
theorem dX3_beasts_34 : decode cX3_beasts 34 = .ok (.aload_n 0, 1) := by decide +kernel
theorem dX3_beasts_35 : decode cX3_beasts 35 = .ok (.getfield 12, 3) := by decide +kernel
theorem dX3_beasts_38 : decode cX3_beasts 38 = .ok (.getfield 56, 3) := by decide +kernel
theorem dX3_beasts_41 : decode cX3_beasts 41 = .ok (.iload_n 1, 1) := by decide +kernel
theorem dX3_beasts_42 : decode cX3_beasts 42 = .ok (.iload_n 2, 1) := by decide +kernel
theorem dX3_beasts_43 : decode cX3_beasts 43 = .ok (.iastore, 1) := by decide +kernel
theorem dX3_beasts_44 : decode cX3_beasts 44 = .ok (.iload_n 3, 1) := by decide +kernel
theorem dX3_beasts_45 : decode cX3_beasts 45 = .ok (.ireturn, 1) := by decide +kernel
theorem dX3_field_0 : decode cX3_field 0 = .ok (.iload_n 1, 1) := by decide +kernel
theorem dX3_field_1 : decode cX3_field 1 = .ok (.invokestatic 44, 3) := by decide +kernel
theorem dX3_field_4 : decode cX3_field 4 = .ok (.ifCond .eq 12, 3) := by decide +kernel
theorem dX3_field_7 : decode cX3_field 7 = .ok (.iload_n 2, 1) := by decide +kernel
theorem dX3_field_8 : decode cX3_field 8 = .ok (.iconst 0, 1) := by decide +kernel
theorem dX3_field_9 : decode cX3_field 9 = .ok (.iconst 1, 1) := by decide +kernel
theorem dX3_field_10 : decode cX3_field 10 = .ok (.invokestatic 48, 3) := by decide +kernel
theorem dX3_field_13 : decode cX3_field 13 = .ok (.ifCond .ne 9, 3) := by decide +kernel
theorem dX3_field_16 : decode cX3_field 16 = .ok (.aload_n 0, 1) := by decide +kernel
theorem dX3_field_17 : decode cX3_field 17 = .ok (.iconst 0, 1) := by decide +kernel
theorem dX3_field_18 : decode cX3_field 18 = .ok (.invokevirtual 52, 3) := by decide +kernel
theorem dX3_field_21 : decode cX3_field 21 = .ok (.ireturn, 1) := by decide +kernel
theorem dX3_field_22 : decode cX3_field 22 = .ok (.iload_n 2, 1) := by decide +kernel
theorem dX3_field_23 : decode cX3_field 23 = .ok (.ifCond .ne 15, 3) := by decide +kernel
theorem dX3_field_26 : decode cX3_field 26 = .ok (.aload_n 0, 1) := by decide +kernel
theorem dX3_field_27 : decode cX3_field 27 = .ok (.getfield 12, 3) := by decide +kernel
theorem dX3_field_30 : decode cX3_field 30 = .ok (.getfield 56, 3) := by decide +kernel
theorem dX3_field_33 : decode cX3_field 33 = .ok (.iload_n 1, 1) := by decide +kernel
theorem dX3_field_34 : decode cX3_field 34 = .ok (.iaload, 1) := by decide +kernel
theorem dX3_field_35 : decode cX3_field 35 = .ok (.goto 11, 3) := by decide +kernel
theorem dX3_field_38 : decode cX3_field 38 = .ok (.aload_n 0, 1) := by decide +kernel
theorem dX3_field_39 : decode cX3_field 39 = .ok (.getfield 12, 3) := by decide +kernel
theorem dX3_field_42 : decode cX3_field 42 = .ok (.iload_n 1, 1) := by decide +kernel
theorem dX3_field_43 : decode cX3_field 43 = .ok (.invokevirtual 59, 3) := by decide +kernel
theorem dX3_field_46 : decode cX3_field 46 = .ok (.ireturn, 1) := by decide +kernel
theorem dX3_gate_0 : decode cX3_gate 0 = .ok (.iload_n 1, 1) := by decide +kernel
theorem dX3_gate_1 : decode cX3_gate 1 = .ok (.invokestatic 62, 3) := by decide +kernel
theorem dX3_gate_4 : decode cX3_gate 4 = .ok (.ifCond .eq 10, 3) := by decide +kernel
theorem dX3_gate_7 : decode cX3_gate 7 = .ok (.iload_n 2, 1) := by decide +kernel
theorem dX3_gate_8 : decode cX3_gate 8 = .ok (.invokestatic 65, 3) := by decide +kernel
theorem dX3_gate_11 : decode cX3_gate 11 = .ok (.ifCond .ne 9, 3) := by decide +kernel
theorem dX3_gate_14 : decode cX3_gate 14 = .ok (.aload_n 0, 1) := by decide +kernel
theorem dX3_gate_15 : decode cX3_gate 15 = .ok (.iconst 0, 1) := by decide +kernel
theorem dX3_gate_16 : decode cX3_gate 16 = .ok (.invokevirtual 52, 3) := by decide +kernel
theorem dX3_gate_19 : decode cX3_gate 19 = .ok (.ireturn, 1) := by decide +kernel
theorem dX3_gate_20 : decode cX3_gate 20 = .ok (.aload_n 0, 1) := by decide +kernel
theorem dX3_gate_21 : decode cX3_gate 21 = .ok (.getfield 12, 3) := by decide +kernel
theorem dX3_gate_24 : decode cX3_gate 24 = .ok (.getfield 68, 3) := by decide +kernel
theorem dX3_gate_27 : decode cX3_gate 27 = .ok (.iload_n 1, 1) := by decide +kernel
theorem dX3_gate_28 : decode cX3_gate 28 = .ok (.iaload, 1) := by decide +kernel
theorem dX3_gate_29 : decode cX3_gate 29 = .ok (.istore_n 3, 1) := by decide +kernel
theorem dX3_gate_30 : decode cX3_gate 30 = .ok (.aload_n 0, 1) := by decide +kernel
theorem dX3_gate_31 : decode cX3_gate 31 = .ok (.getfield 12, 3) := by decide +kernel
theorem dX3_gate_34 : decode cX3_gate 34 = .ok (.getfield 68, 3) := by decide +kernel
theorem dX3_gate_37 : decode cX3_gate 37 = .ok (.iload_n 1, 1) := by decide +kernel
theorem dX3_gate_38 : decode cX3_gate 38 = .ok (.iload_n 2, 1) := by decide +kernel
theorem dX3_gate_39 : decode cX3_gate 39 = .ok (.iastore, 1) := by decide +kernel
theorem dX3_gate_40 : decode cX3_gate 40 = .ok (.iload_n 3, 1) := by decide +kernel
theorem dX3_gate_41 : decode cX3_gate 41 = .ok (.ireturn, 1) := by decide +kernel
theorem dX3_stands_0 : decode cX3_stands 0 = .ok (.iload_n 1, 1) := by decide +kernel
theorem dX3_stands_1 : decode cX3_stands 1 = .ok (.invokestatic 62, 3) := by decide +kernel
theorem dX3_stands_4 : decode cX3_stands 4 = .ok (.ifCond .ne 9, 3) := by decide +kernel
theorem dX3_stands_7 : decode cX3_stands 7 = .ok (.aload_n 0, 1) := by decide +kernel
theorem dX3_stands_8 : decode cX3_stands 8 = .ok (.iconst 0, 1) := by decide +kernel
theorem dX3_stands_9 : decode cX3_stands 9 = .ok (.invokevirtual 52, 3) := by decide +kernel
theorem dX3_stands_12 : decode cX3_stands 12 = .ok (.ireturn, 1) := by decide +kernel
theorem dX3_stands_13 : decode cX3_stands 13 = .ok (.aload_n 0, 1) := by decide +kernel
theorem dX3_stands_14 : decode cX3_stands 14 = .ok (.getfield 12, 3) := by decide +kernel
theorem dX3_stands_17 : decode cX3_stands 17 = .ok (.getfield 68, 3) := by decide +kernel
theorem dX3_stands_20 : decode cX3_stands 20 = .ok (.iload_n 1, 1) := by decide +kernel
theorem dX3_stands_21 : decode cX3_stands 21 = .ok (.iaload, 1) := by decide +kernel
theorem dX3_stands_22 : decode cX3_stands 22 = .ok (.ireturn, 1) := by decide +kernel
theorem dX3_wind_0 : decode cX3_wind 0 = .ok (.iload_n 1, 1) := by decide +kernel
theorem dX3_wind_1 : decode cX3_wind 1 = .ok (.iconst 0, 1) := by decide +kernel
theorem dX3_wind_2 : decode cX3_wind 2 = .ok (.bipush 9, 2) := by decide +kernel
theorem dX3_wind_4 : decode cX3_wind 4 = .ok (.invokestatic 48, 3) := by decide +kernel
theorem dX3_wind_7 : decode cX3_wind 7 = .ok (.ifCond .ne 9, 3) := by decide +kernel
theorem dX3_wind_10 : decode cX3_wind 10 = .ok (.aload_n 0, 1) := by decide +kernel
theorem dX3_wind_11 : decode cX3_wind 11 = .ok (.iconst 0, 1) := by decide +kernel
theorem dX3_wind_12 : decode cX3_wind 12 = .ok (.invokevirtual 52, 3) := by decide +kernel
theorem dX3_wind_15 : decode cX3_wind 15 = .ok (.ireturn, 1) := by decide +kernel
theorem dX3_wind_16 : decode cX3_wind 16 = .ok (.aload_n 0, 1) := by decide +kernel
theorem dX3_wind_17 : decode cX3_wind 17 = .ok (.getfield 12, 3) := by decide +kernel
theorem dX3_wind_20 : decode cX3_wind 20 = .ok (.getfield 71, 3) := by decide +kernel
theorem dX3_wind_23 : decode cX3_wind 23 = .ok (.istore_n 2, 1) := by decide +kernel
theorem dX3_wind_24 : decode cX3_wind 24 = .ok (.aload_n 0, 1) := by decide +kernel
theorem dX3_wind_25 : decode cX3_wind 25 = .ok (.getfield 12, 3) := by decide +kernel
theorem dX3_wind_28 : decode cX3_wind 28 = .ok (.iload_n 1, 1) := by decide +kernel
theorem dX3_wind_29 : decode cX3_wind 29 = .ok (.putfield 71, 3) := by decide +kernel
theorem dX3_wind_32 : decode cX3_wind 32 = .ok (.iload_n 2, 1) := by decide +kernel
theorem dX3_wind_33 : decode cX3_wind 33 = .ok (.ireturn, 1) := by decide +kernel
theorem dX3_walker_0 : decode cX3_walker 0 = .ok (.iload_n 1, 1) := by decide +kernel
theorem dX3_walker_1 : decode cX3_walker 1 = .ok (.invokestatic 75, 3) := by decide +kernel
theorem dX3_walker_4 : decode cX3_walker 4 = .ok (.ifCond .eq 10, 3) := by decide +kernel
theorem dX3_walker_7 : decode cX3_walker 7 = .ok (.iload_n 2, 1) := by decide +kernel
theorem dX3_walker_8 : decode cX3_walker 8 = .ok (.invokestatic 44, 3) := by decide +kernel
theorem dX3_walker_11 : decode cX3_walker 11 = .ok (.ifCond .ne 9, 3) := by decide +kernel
theorem dX3_walker_14 : decode cX3_walker 14 = .ok (.aload_n 0, 1) := by decide +kernel
theorem dX3_walker_15 : decode cX3_walker 15 = .ok (.iconst 0, 1) := by decide +kernel
theorem dX3_walker_16 : decode cX3_walker 16 = .ok (.invokevirtual 52, 3) := by decide +kernel
theorem dX3_walker_19 : decode cX3_walker 19 = .ok (.ireturn, 1) := by decide +kernel
theorem dX3_walker_20 : decode cX3_walker 20 = .ok (.aload_n 0, 1) := by decide +kernel
theorem dX3_walker_21 : decode cX3_walker 21 = .ok (.getfield 12, 3) := by decide +kernel
theorem dX3_walker_24 : decode cX3_walker 24 = .ok (.getfield 78, 3) := by decide +kernel
theorem dX3_walker_27 : decode cX3_walker 27 = .ok (.bipush 8, 2) := by decide +kernel
theorem dX3_walker_29 : decode cX3_walker 29 = .ok (.if_icmp .lt 9, 3) := by decide +kernel
theorem dX3_walker_32 : decode cX3_walker 32 = .ok (.aload_n 0, 1) := by decide +kernel
theorem dX3_walker_33 : decode cX3_walker 33 = .ok (.iconst 1, 1) := by decide +kernel
theorem dX3_walker_34 : decode cX3_walker 34 = .ok (.invokevirtual 52, 3) := by decide +kernel
theorem dX3_walker_37 : decode cX3_walker 37 = .ok (.ireturn, 1) := by decide +kernel
theorem dX3_walker_38 : decode cX3_walker 38 = .ok (.aload_n 0, 1) := by decide +kernel
theorem dX3_walker_39 : decode cX3_walker 39 = .ok (.getfield 12, 3) := by decide +kernel
theorem dX3_walker_42 : decode cX3_walker 42 = .ok (.iload_n 1, 1) := by decide +kernel
theorem dX3_walker_43 : decode cX3_walker 43 = .ok (.iload_n 2, 1) := by decide +kernel
theorem dX3_walker_44 : decode cX3_walker 44 = .ok (.invokevirtual 81, 3) := by decide +kernel
theorem dX3_walker_47 : decode cX3_walker 47 = .ok (.ireturn, 1) := by decide +kernel
theorem dX3_of_0 : decode cX3_of 0 = .ok (.aload_n 0, 1) := by decide +kernel
theorem dX3_of_1 : decode cX3_of 1 = .ok (.iload_n 1, 1) := by decide +kernel
theorem dX3_of_2 : decode cX3_of 2 = .ok (.invokevirtual 85, 3) := by decide +kernel
theorem dX3_of_5 : decode cX3_of 5 = .ok (.ifCond .eq 12, 3) := by decide +kernel
theorem dX3_of_8 : decode cX3_of 8 = .ok (.iload_n 2, 1) := by decide +kernel
theorem dX3_of_9 : decode cX3_of 9 = .ok (.iconst 0, 1) := by decide +kernel
theorem dX3_of_10 : decode cX3_of 10 = .ok (.iconst 5, 1) := by decide +kernel
theorem dX3_of_11 : decode cX3_of 11 = .ok (.invokestatic 48, 3) := by decide +kernel
theorem dX3_of_14 : decode cX3_of 14 = .ok (.ifCond .ne 9, 3) := by decide +kernel
theorem dX3_of_17 : decode cX3_of 17 = .ok (.aload_n 0, 1) := by decide +kernel
theorem dX3_of_18 : decode cX3_of 18 = .ok (.iconst 0, 1) := by decide +kernel
theorem dX3_of_19 : decode cX3_of 19 = .ok (.invokevirtual 52, 3) := by decide +kernel
theorem dX3_of_22 : decode cX3_of 22 = .ok (.ireturn, 1) := by decide +kernel
theorem dX3_of_23 : decode cX3_of 23 = .ok (.iload_n 2, 1) := by decide +kernel
theorem dX3_of_24 : decode cX3_of 24 = .ok (.iconst 5, 1) := by decide +kernel
theorem dX3_of_25 : decode cX3_of 25 = .ok (.if_icmp .ne 14, 3) := by decide +kernel
theorem dX3_of_28 : decode cX3_of 28 = .ok (.aload_n 0, 1) := by decide +kernel
theorem dX3_of_29 : decode cX3_of 29 = .ok (.getfield 12, 3) := by decide +kernel
theorem dX3_of_32 : decode cX3_of 32 = .ok (.iload_n 1, 1) := by decide +kernel
theorem dX3_of_33 : decode cX3_of 33 = .ok (.invokevirtual 88, 3) := by decide +kernel
theorem dX3_of_36 : decode cX3_of 36 = .ok (.goto 14, 3) := by decide +kernel
theorem dX3_of_39 : decode cX3_of 39 = .ok (.aload_n 0, 1) := by decide +kernel
theorem dX3_of_40 : decode cX3_of 40 = .ok (.getfield 12, 3) := by decide +kernel
theorem dX3_of_43 : decode cX3_of 43 = .ok (.getfield 91, 3) := by decide +kernel
theorem dX3_of_46 : decode cX3_of 46 = .ok (.iload_n 2, 1) := by decide +kernel
theorem dX3_of_47 : decode cX3_of 47 = .ok (.aaload, 1) := by decide +kernel
theorem dX3_of_48 : decode cX3_of 48 = .ok (.iload_n 1, 1) := by decide +kernel
theorem dX3_of_49 : decode cX3_of 49 = .ok (.iaload, 1) := by decide +kernel
theorem dX3_of_50 : decode cX3_of 50 = .ok (.ireturn, 1) := by decide +kernel
theorem dX3_change_0 : decode cX3_change 0 = .ok (.aload_n 0, 1) := by decide +kernel
theorem dX3_change_1 : decode cX3_change 1 = .ok (.iload_n 1, 1) := by decide +kernel
theorem dX3_change_2 : decode cX3_change 2 = .ok (.invokevirtual 85, 3) := by decide +kernel
theorem dX3_change_5 : decode cX3_change 5 = .ok (.ifCond .eq 25, 3) := by decide +kernel
theorem dX3_change_8 : decode cX3_change 8 = .ok (.iload_n 2, 1) := by decide +kernel
theorem dX3_change_9 : decode cX3_change 9 = .ok (.iconst 0, 1) := by decide +kernel
theorem dX3_change_10 : decode cX3_change 10 = .ok (.iconst 4, 1) := by decide +kernel
theorem dX3_change_11 : decode cX3_change 11 = .ok (.invokestatic 48, 3) := by decide +kernel
theorem dX3_change_14 : decode cX3_change 14 = .ok (.ifCond .eq 16, 3) := by decide +kernel
theorem dX3_change_17 : decode cX3_change 17 = .ok (.iload_n 3, 1) := by decide +kernel
theorem dX3_change_18 : decode cX3_change 18 = .ok (.iconst 0, 1) := by decide +kernel
theorem dX3_change_19 : decode cX3_change 19 = .ok (.getstatic 95, 3) := by decide +kernel
theorem dX3_change_22 : decode cX3_change 22 = .ok (.iload_n 2, 1) := by decide +kernel
theorem dX3_change_23 : decode cX3_change 23 = .ok (.iaload, 1) := by decide +kernel
theorem dX3_change_24 : decode cX3_change 24 = .ok (.invokestatic 48, 3) := by decide +kernel
theorem dX3_change_27 : decode cX3_change 27 = .ok (.ifCond .ne 9, 3) := by decide +kernel
theorem dX3_change_30 : decode cX3_change 30 = .ok (.aload_n 0, 1) := by decide +kernel
theorem dX3_change_31 : decode cX3_change 31 = .ok (.iconst 0, 1) := by decide +kernel
theorem dX3_change_32 : decode cX3_change 32 = .ok (.invokevirtual 52, 3) := by decide +kernel
theorem dX3_change_35 : decode cX3_change 35 = .ok (.ireturn, 1) := by decide +kernel
theorem dX3_change_36 : decode cX3_change 36 = .ok (.aload_n 0, 1) := by decide +kernel
theorem dX3_change_37 : decode cX3_change 37 = .ok (.getfield 12, 3) := by decide +kernel
theorem dX3_change_40 : decode cX3_change 40 = .ok (.getfield 91, 3) := by decide +kernel
theorem dX3_change_43 : decode cX3_change 43 = .ok (.iload_n 2, 1) := by decide +kernel
theorem dX3_change_44 : decode cX3_change 44 = .ok (.aaload, 1) := by decide +kernel
theorem dX3_change_45 : decode cX3_change 45 = .ok (.iload_n 1, 1) := by decide +kernel
theorem dX3_change_46 : decode cX3_change 46 = .ok (.iaload, 1) := by decide +kernel
theorem dX3_change_47 : decode cX3_change 47 = .ok (.istore 4, 2) := by decide +kernel
theorem dX3_change_49 : decode cX3_change 49 = .ok (.aload_n 0, 1) := by decide +kernel
theorem dX3_change_50 : decode cX3_change 50 = .ok (.getfield 12, 3) := by decide +kernel
theorem dX3_change_53 : decode cX3_change 53 = .ok (.getfield 91, 3) := by decide +kernel
theorem dX3_change_56 : decode cX3_change 56 = .ok (.iload_n 2, 1) := by decide +kernel
theorem dX3_change_57 : decode cX3_change 57 = .ok (.aaload, 1) := by decide +kernel
theorem dX3_change_58 : decode cX3_change 58 = .ok (.iload_n 1, 1) := by decide +kernel
theorem dX3_change_59 : decode cX3_change 59 = .ok (.iload_n 3, 1) := by decide +kernel
theorem dX3_change_60 : decode cX3_change 60 = .ok (.iastore, 1) := by decide +kernel
theorem dX3_change_61 : decode cX3_change 61 = .ok (.iload 4, 2) := by decide +kernel
theorem dX3_change_63 : decode cX3_change 63 = .ok (.ireturn, 1) := by decide +kernel
theorem dX3_leaves_0 : decode cX3_leaves 0 = .ok (.aload_n 0, 1) := by decide +kernel
theorem dX3_leaves_1 : decode cX3_leaves 1 = .ok (.iload_n 1, 1) := by decide +kernel
theorem dX3_leaves_2 : decode cX3_leaves 2 = .ok (.invokevirtual 85, 3) := by decide +kernel
theorem dX3_leaves_5 : decode cX3_leaves 5 = .ok (.ifCond .eq 19, 3) := by decide +kernel
theorem dX3_leaves_8 : decode cX3_leaves 8 = .ok (.iload_n 2, 1) := by decide +kernel
theorem dX3_leaves_9 : decode cX3_leaves 9 = .ok (.invokestatic 65, 3) := by decide +kernel
theorem dX3_leaves_12 : decode cX3_leaves 12 = .ok (.ifCond .eq 12, 3) := by decide +kernel
theorem dX3_leaves_15 : decode cX3_leaves 15 = .ok (.iload_n 3, 1) := by decide +kernel
theorem dX3_leaves_16 : decode cX3_leaves 16 = .ok (.iconst 0, 1) := by decide +kernel
theorem dX3_leaves_17 : decode cX3_leaves 17 = .ok (.iconst 1, 1) := by decide +kernel
theorem dX3_leaves_18 : decode cX3_leaves 18 = .ok (.invokestatic 48, 3) := by decide +kernel
theorem dX3_leaves_21 : decode cX3_leaves 21 = .ok (.ifCond .ne 9, 3) := by decide +kernel
theorem dX3_leaves_24 : decode cX3_leaves 24 = .ok (.aload_n 0, 1) := by decide +kernel
theorem dX3_leaves_25 : decode cX3_leaves 25 = .ok (.iconst 0, 1) := by decide +kernel
theorem dX3_leaves_26 : decode cX3_leaves 26 = .ok (.invokevirtual 52, 3) := by decide +kernel
theorem dX3_leaves_29 : decode cX3_leaves 29 = .ok (.ireturn, 1) := by decide +kernel
theorem dX3_leaves_30 : decode cX3_leaves 30 = .ok (.iload_n 3, 1) := by decide +kernel
theorem dX3_leaves_31 : decode cX3_leaves 31 = .ok (.ifCond .ne 15, 3) := by decide +kernel
theorem dX3_leaves_34 : decode cX3_leaves 34 = .ok (.aload_n 0, 1) := by decide +kernel
theorem dX3_leaves_35 : decode cX3_leaves 35 = .ok (.getfield 12, 3) := by decide +kernel
theorem dX3_leaves_38 : decode cX3_leaves 38 = .ok (.iload_n 1, 1) := by decide +kernel
theorem dX3_leaves_39 : decode cX3_leaves 39 = .ok (.iload_n 2, 1) := by decide +kernel
theorem dX3_leaves_40 : decode cX3_leaves 40 = .ok (.invokevirtual 98, 3) := by decide +kernel
theorem dX3_leaves_43 : decode cX3_leaves 43 = .ok (.goto 12, 3) := by decide +kernel
theorem dX3_leaves_46 : decode cX3_leaves 46 = .ok (.aload_n 0, 1) := by decide +kernel
theorem dX3_leaves_47 : decode cX3_leaves 47 = .ok (.getfield 12, 3) := by decide +kernel
theorem dX3_leaves_50 : decode cX3_leaves 50 = .ok (.iload_n 1, 1) := by decide +kernel
theorem dX3_leaves_51 : decode cX3_leaves 51 = .ok (.iload_n 2, 1) := by decide +kernel
theorem dX3_leaves_52 : decode cX3_leaves 52 = .ok (.invokevirtual 101, 3) := by decide +kernel
theorem dX3_leaves_55 : decode cX3_leaves 55 = .ok (.ireturn, 1) := by decide +kernel
theorem dX3_go_0 : decode cX3_go 0 = .ok (.iload_n 1, 1) := by decide +kernel
theorem dX3_go_1 : decode cX3_go 1 = .ok (.iconst 1, 1) := by decide +kernel
theorem dX3_go_2 : decode cX3_go 2 = .ok (.bipush 60, 2) := by decide +kernel
theorem dX3_go_4 : decode cX3_go 4 = .ok (.invokestatic 48, 3) := by decide +kernel
theorem dX3_go_7 : decode cX3_go 7 = .ok (.ifCond .ne 9, 3) := by decide +kernel
theorem dX3_go_10 : decode cX3_go 10 = .ok (.aload_n 0, 1) := by decide +kernel
theorem dX3_go_11 : decode cX3_go 11 = .ok (.iconst 0, 1) := by decide +kernel
theorem dX3_go_12 : decode cX3_go 12 = .ok (.invokevirtual 52, 3) := by decide +kernel
theorem dX3_go_15 : decode cX3_go 15 = .ok (.ireturn, 1) := by decide +kernel
theorem dX3_go_16 : decode cX3_go 16 = .ok (.aload_n 0, 1) := by decide +kernel
theorem dX3_go_17 : decode cX3_go 17 = .ok (.getfield 12, 3) := by decide +kernel
theorem dX3_go_20 : decode cX3_go 20 = .ok (.getfield 104, 3) := by decide +kernel
theorem dX3_go_23 : decode cX3_go 23 = .ok (.iload_n 1, 1) := by decide +kernel
theorem dX3_go_24 : decode cX3_go 24 = .ok (.iadd, 1) := by decide +kernel
theorem dX3_go_25 : decode cX3_go 25 = .ok (.ldc 107, 2) := by decide +kernel
theorem dX3_go_27 : decode cX3_go 27 = .ok (.if_icmp .le 9, 3) := by decide +kernel
theorem dX3_go_30 : decode cX3_go 30 = .ok (.aload_n 0, 1) := by decide +kernel
theorem dX3_go_31 : decode cX3_go 31 = .ok (.iconst 4, 1) := by decide +kernel
theorem dX3_go_32 : decode cX3_go 32 = .ok (.invokevirtual 52, 3) := by decide +kernel
theorem dX3_go_35 : decode cX3_go 35 = .ok (.ireturn, 1) := by decide +kernel
theorem dX3_go_36 : decode cX3_go 36 = .ok (.aload_n 0, 1) := by decide +kernel
theorem dX3_go_37 : decode cX3_go 37 = .ok (.getfield 12, 3) := by decide +kernel
theorem dX3_go_40 : decode cX3_go 40 = .ok (.iload_n 1, 1) := by decide +kernel
theorem dX3_go_41 : decode cX3_go 41 = .ok (.sipush 255, 3) := by decide +kernel
theorem dX3_go_44 : decode cX3_go 44 = .ok (.invokevirtual 108, 3) := by decide +kernel
theorem dX3_go_47 : decode cX3_go 47 = .ok (.aload_n 0, 1) := by decide +kernel
theorem dX3_go_48 : decode cX3_go 48 = .ok (.getfield 12, 3) := by decide +kernel
theorem dX3_go_51 : decode cX3_go 51 = .ok (.invokevirtual 112, 3) := by decide +kernel
theorem dX3_go_54 : decode cX3_go 54 = .ok (.ireturn, 1) := by decide +kernel
theorem dX3_now_0 : decode cX3_now 0 = .ok (.iload_n 1, 1) := by decide +kernel
theorem dX3_now_1 : decode cX3_now 1 = .ok (.tableswitch 87 0 5 #[39, 47, 55, 63, 71, 79], 39) := by decide +kernel
theorem dX3_now_40 : decode cX3_now 40 = .ok (.aload_n 0, 1) := by decide +kernel
theorem dX3_now_41 : decode cX3_now 41 = .ok (.getfield 12, 3) := by decide +kernel
theorem dX3_now_44 : decode cX3_now 44 = .ok (.getfield 104, 3) := by decide +kernel
theorem dX3_now_47 : decode cX3_now 47 = .ok (.ireturn, 1) := by decide +kernel
theorem dX3_now_48 : decode cX3_now 48 = .ok (.aload_n 0, 1) := by decide +kernel
theorem dX3_now_49 : decode cX3_now 49 = .ok (.getfield 12, 3) := by decide +kernel
theorem dX3_now_52 : decode cX3_now 52 = .ok (.invokevirtual 116, 3) := by decide +kernel
theorem dX3_now_55 : decode cX3_now 55 = .ok (.ireturn, 1) := by decide +kernel
theorem dX3_now_56 : decode cX3_now 56 = .ok (.aload_n 0, 1) := by decide +kernel
theorem dX3_now_57 : decode cX3_now 57 = .ok (.getfield 12, 3) := by decide +kernel
theorem dX3_now_60 : decode cX3_now 60 = .ok (.invokevirtual 119, 3) := by decide +kernel
theorem dX3_now_63 : decode cX3_now 63 = .ok (.ireturn, 1) := by decide +kernel
theorem dX3_now_64 : decode cX3_now 64 = .ok (.aload_n 0, 1) := by decide +kernel
theorem dX3_now_65 : decode cX3_now 65 = .ok (.getfield 12, 3) := by decide +kernel
theorem dX3_now_68 : decode cX3_now 68 = .ok (.invokevirtual 112, 3) := by decide +kernel
theorem dX3_now_71 : decode cX3_now 71 = .ok (.ireturn, 1) := by decide +kernel
theorem dX3_now_72 : decode cX3_now 72 = .ok (.aload_n 0, 1) := by decide +kernel
theorem dX3_now_73 : decode cX3_now 73 = .ok (.getfield 12, 3) := by decide +kernel
theorem dX3_now_76 : decode cX3_now 76 = .ok (.invokevirtual 122, 3) := by decide +kernel
theorem dX3_now_79 : decode cX3_now 79 = .ok (.ireturn, 1) := by decide +kernel
theorem dX3_now_80 : decode cX3_now 80 = .ok (.aload_n 0, 1) := by decide +kernel
theorem dX3_now_81 : decode cX3_now 81 = .ok (.getfield 12, 3) := by decide +kernel
theorem dX3_now_84 : decode cX3_now 84 = .ok (.invokevirtual 125, 3) := by decide +kernel
theorem dX3_now_87 : decode cX3_now 87 = .ok (.ireturn, 1) := by decide +kernel
theorem dX3_now_88 : decode cX3_now 88 = .ok (.aload_n 0, 1) := by decide +kernel
theorem dX3_now_89 : decode cX3_now 89 = .ok (.iconst 0, 1) := by decide +kernel
theorem dX3_now_90 : decode cX3_now 90 = .ok (.invokevirtual 52, 3) := by decide +kernel
theorem dX3_now_93 : decode cX3_now 93 = .ok (.ireturn, 1) := by decide +kernel
theorem dX3_ahead_0 : decode cX3_ahead 0 = .ok (.iload_n 1, 1) := by decide +kernel
theorem dX3_ahead_1 : decode cX3_ahead 1 = .ok (.invokestatic 44, 3) := by decide +kernel
theorem dX3_ahead_4 : decode cX3_ahead 4 = .ok (.ifCond .eq 13, 3) := by decide +kernel
theorem dX3_ahead_7 : decode cX3_ahead 7 = .ok (.iload_n 2, 1) := by decide +kernel
theorem dX3_ahead_8 : decode cX3_ahead 8 = .ok (.iconst 0, 1) := by decide +kernel
theorem dX3_ahead_9 : decode cX3_ahead 9 = .ok (.bipush 100, 2) := by decide +kernel
theorem dX3_ahead_11 : decode cX3_ahead 11 = .ok (.invokestatic 48, 3) := by decide +kernel
theorem dX3_ahead_14 : decode cX3_ahead 14 = .ok (.ifCond .ne 9, 3) := by decide +kernel
theorem dX3_ahead_17 : decode cX3_ahead 17 = .ok (.aload_n 0, 1) := by decide +kernel
theorem dX3_ahead_18 : decode cX3_ahead 18 = .ok (.iconst 0, 1) := by decide +kernel
theorem dX3_ahead_19 : decode cX3_ahead 19 = .ok (.invokevirtual 52, 3) := by decide +kernel
theorem dX3_ahead_22 : decode cX3_ahead 22 = .ok (.ireturn, 1) := by decide +kernel
theorem dX3_ahead_23 : decode cX3_ahead 23 = .ok (.aload_n 0, 1) := by decide +kernel
theorem dX3_ahead_24 : decode cX3_ahead 24 = .ok (.iload_n 2, 1) := by decide +kernel
theorem dX3_ahead_25 : decode cX3_ahead 25 = .ok (.invokevirtual 128, 3) := by decide +kernel
theorem dX3_ahead_28 : decode cX3_ahead 28 = .ok (.aload_n 0, 1) := by decide +kernel
theorem dX3_ahead_29 : decode cX3_ahead 29 = .ok (.getfield 16, 3) := by decide +kernel
theorem dX3_ahead_32 : decode cX3_ahead 32 = .ok (.getfield 56, 3) := by decide +kernel
theorem dX3_ahead_35 : decode cX3_ahead 35 = .ok (.iload_n 1, 1) := by decide +kernel
theorem dX3_ahead_36 : decode cX3_ahead 36 = .ok (.iaload, 1) := by decide +kernel
theorem dX3_ahead_37 : decode cX3_ahead 37 = .ok (.ireturn, 1) := by decide +kernel
theorem dX3_stand_0 : decode cX3_stand 0 = .ok (.iload_n 1, 1) := by decide +kernel
theorem dX3_stand_1 : decode cX3_stand 1 = .ok (.invokestatic 62, 3) := by decide +kernel
theorem dX3_stand_4 : decode cX3_stand 4 = .ok (.ifCond .eq 13, 3) := by decide +kernel
theorem dX3_stand_7 : decode cX3_stand 7 = .ok (.iload_n 2, 1) := by decide +kernel
theorem dX3_stand_8 : decode cX3_stand 8 = .ok (.iconst 0, 1) := by decide +kernel
theorem dX3_stand_9 : decode cX3_stand 9 = .ok (.bipush 100, 2) := by decide +kernel
theorem dX3_stand_11 : decode cX3_stand 11 = .ok (.invokestatic 48, 3) := by decide +kernel
theorem dX3_stand_14 : decode cX3_stand 14 = .ok (.ifCond .ne 9, 3) := by decide +kernel
theorem dX3_stand_17 : decode cX3_stand 17 = .ok (.aload_n 0, 1) := by decide +kernel
theorem dX3_stand_18 : decode cX3_stand 18 = .ok (.iconst 0, 1) := by decide +kernel
theorem dX3_stand_19 : decode cX3_stand 19 = .ok (.invokevirtual 52, 3) := by decide +kernel
theorem dX3_stand_22 : decode cX3_stand 22 = .ok (.ireturn, 1) := by decide +kernel
theorem dX3_stand_23 : decode cX3_stand 23 = .ok (.aload_n 0, 1) := by decide +kernel
theorem dX3_stand_24 : decode cX3_stand 24 = .ok (.iload_n 2, 1) := by decide +kernel
theorem dX3_stand_25 : decode cX3_stand 25 = .ok (.invokevirtual 128, 3) := by decide +kernel
theorem dX3_stand_28 : decode cX3_stand 28 = .ok (.aload_n 0, 1) := by decide +kernel
theorem dX3_stand_29 : decode cX3_stand 29 = .ok (.getfield 16, 3) := by decide +kernel
theorem dX3_stand_32 : decode cX3_stand 32 = .ok (.getfield 68, 3) := by decide +kernel
theorem dX3_stand_35 : decode cX3_stand 35 = .ok (.iload_n 1, 1) := by decide +kernel
theorem dX3_stand_36 : decode cX3_stand 36 = .ok (.iaload, 1) := by decide +kernel
theorem dX3_stand_37 : decode cX3_stand 37 = .ok (.ireturn, 1) := by decide +kernel
theorem dX3_where_0 : decode cX3_where 0 = .ok (.aload_n 0, 1) := by decide +kernel
theorem dX3_where_1 : decode cX3_where 1 = .ok (.iload_n 1, 1) := by decide +kernel
theorem dX3_where_2 : decode cX3_where 2 = .ok (.invokevirtual 85, 3) := by decide +kernel
theorem dX3_where_5 : decode cX3_where 5 = .ok (.ifCond .eq 23, 3) := by decide +kernel
theorem dX3_where_8 : decode cX3_where 8 = .ok (.iload_n 2, 1) := by decide +kernel
theorem dX3_where_9 : decode cX3_where 9 = .ok (.iconst 1, 1) := by decide +kernel
theorem dX3_where_10 : decode cX3_where 10 = .ok (.if_icmp .eq 8, 3) := by decide +kernel
theorem dX3_where_13 : decode cX3_where 13 = .ok (.iload_n 2, 1) := by decide +kernel
theorem dX3_where_14 : decode cX3_where 14 = .ok (.iconst 3, 1) := by decide +kernel
theorem dX3_where_15 : decode cX3_where 15 = .ok (.if_icmp .ne 13, 3) := by decide +kernel
theorem dX3_where_18 : decode cX3_where 18 = .ok (.iload_n 3, 1) := by decide +kernel
theorem dX3_where_19 : decode cX3_where 19 = .ok (.iconst 0, 1) := by decide +kernel
theorem dX3_where_20 : decode cX3_where 20 = .ok (.bipush 100, 2) := by decide +kernel
theorem dX3_where_22 : decode cX3_where 22 = .ok (.invokestatic 48, 3) := by decide +kernel
theorem dX3_where_25 : decode cX3_where 25 = .ok (.ifCond .ne 9, 3) := by decide +kernel
theorem dX3_where_28 : decode cX3_where 28 = .ok (.aload_n 0, 1) := by decide +kernel
theorem dX3_where_29 : decode cX3_where 29 = .ok (.iconst 0, 1) := by decide +kernel
theorem dX3_where_30 : decode cX3_where 30 = .ok (.invokevirtual 52, 3) := by decide +kernel
theorem dX3_where_33 : decode cX3_where 33 = .ok (.ireturn, 1) := by decide +kernel
theorem dX3_where_34 : decode cX3_where 34 = .ok (.aload_n 0, 1) := by decide +kernel
theorem dX3_where_35 : decode cX3_where 35 = .ok (.iload_n 3, 1) := by decide +kernel
theorem dX3_where_36 : decode cX3_where 36 = .ok (.invokevirtual 128, 3) := by decide +kernel
theorem dX3_where_39 : decode cX3_where 39 = .ok (.aload_n 0, 1) := by decide +kernel
theorem dX3_where_40 : decode cX3_where 40 = .ok (.getfield 16, 3) := by decide +kernel
theorem dX3_where_43 : decode cX3_where 43 = .ok (.getfield 91, 3) := by decide +kernel
theorem dX3_where_46 : decode cX3_where 46 = .ok (.iload_n 2, 1) := by decide +kernel
theorem dX3_where_47 : decode cX3_where 47 = .ok (.aaload, 1) := by decide +kernel
theorem dX3_where_48 : decode cX3_where 48 = .ok (.iload_n 1, 1) := by decide +kernel
theorem dX3_where_49 : decode cX3_where 49 = .ok (.iaload, 1) := by decide +kernel
theorem dX3_where_50 : decode cX3_where 50 = .ok (.ireturn, 1) := by decide +kernel
theorem dX3_corn_0 : decode cX3_corn 0 = .ok (.iload_n 1, 1) := by decide +kernel
theorem dX3_corn_1 : decode cX3_corn 1 = .ok (.invokestatic 44, 3) := by decide +kernel
theorem dX3_corn_4 : decode cX3_corn 4 = .ok (.ifCond .eq 14, 3) := by decide +kernel
theorem dX3_corn_7 : decode cX3_corn 7 = .ok (.iload_n 2, 1) := by decide +kernel
theorem dX3_corn_8 : decode cX3_corn 8 = .ok (.iconst 0, 1) := by decide +kernel
theorem dX3_corn_9 : decode cX3_corn 9 = .ok (.sipush 9999, 3) := by decide +kernel
theorem dX3_corn_12 : decode cX3_corn 12 = .ok (.invokestatic 48, 3) := by decide +kernel
theorem dX3_corn_15 : decode cX3_corn 15 = .ok (.ifCond .ne 9, 3) := by decide +kernel
theorem dX3_corn_18 : decode cX3_corn 18 = .ok (.aload_n 0, 1) := by decide +kernel
theorem dX3_corn_19 : decode cX3_corn 19 = .ok (.iconst 0, 1) := by decide +kernel
theorem dX3_corn_20 : decode cX3_corn 20 = .ok (.invokevirtual 52, 3) := by decide +kernel
theorem dX3_corn_23 : decode cX3_corn 23 = .ok (.ireturn, 1) := by decide +kernel
theorem dX3_corn_24 : decode cX3_corn 24 = .ok (.aload_n 0, 1) := by decide +kernel
theorem dX3_corn_25 : decode cX3_corn 25 = .ok (.getfield 16, 3) := by decide +kernel
theorem dX3_corn_28 : decode cX3_corn 28 = .ok (.aload_n 0, 1) := by decide +kernel
theorem dX3_corn_29 : decode cX3_corn 29 = .ok (.getfield 12, 3) := by decide +kernel
theorem dX3_corn_32 : decode cX3_corn 32 = .ok (.invokevirtual 132, 3) := by decide +kernel
theorem dX3_corn_35 : decode cX3_corn 35 = .ok (.iconst 0, 1) := by decide +kernel
theorem dX3_corn_36 : decode cX3_corn 36 = .ok (.istore_n 3, 1) := by decide +kernel
theorem dX3_corn_37 : decode cX3_corn 37 = .ok (.iload_n 3, 1) := by decide +kernel
theorem dX3_corn_38 : decode cX3_corn 38 = .ok (.bipush 100, 2) := by decide +kernel
theorem dX3_corn_40 : decode cX3_corn 40 = .ok (.if_icmp .gt 35, 3) := by decide +kernel
theorem dX3_corn_43 : decode cX3_corn 43 = .ok (.aload_n 0, 1) := by decide +kernel
theorem dX3_corn_44 : decode cX3_corn 44 = .ok (.getfield 16, 3) := by decide +kernel
theorem dX3_corn_47 : decode cX3_corn 47 = .ok (.getfield 56, 3) := by decide +kernel
theorem dX3_corn_50 : decode cX3_corn 50 = .ok (.iload_n 1, 1) := by decide +kernel
theorem dX3_corn_51 : decode cX3_corn 51 = .ok (.iaload, 1) := by decide +kernel
theorem dX3_corn_52 : decode cX3_corn 52 = .ok (.iload_n 2, 1) := by decide +kernel
theorem dX3_corn_53 : decode cX3_corn 53 = .ok (.if_icmp .lt 5, 3) := by decide +kernel
theorem dX3_corn_56 : decode cX3_corn 56 = .ok (.iload_n 3, 1) := by decide +kernel
theorem dX3_corn_57 : decode cX3_corn 57 = .ok (.ireturn, 1) := by decide +kernel
theorem dX3_corn_58 : decode cX3_corn 58 = .ok (.aload_n 0, 1) := by decide +kernel
theorem dX3_corn_59 : decode cX3_corn 59 = .ok (.getfield 16, 3) := by decide +kernel
theorem dX3_corn_62 : decode cX3_corn 62 = .ok (.iconst 1, 1) := by decide +kernel
theorem dX3_corn_63 : decode cX3_corn 63 = .ok (.sipush 255, 3) := by decide +kernel
theorem dX3_corn_66 : decode cX3_corn 66 = .ok (.invokevirtual 108, 3) := by decide +kernel
theorem dX3_corn_69 : decode cX3_corn 69 = .ok (.iinc 3 1, 3) := by decide +kernel
theorem dX3_corn_72 : decode cX3_corn 72 = .ok (.goto (-35), 3) := by decide +kernel
theorem dX3_corn_75 : decode cX3_corn 75 = .ok (.aload_n 0, 1) := by decide +kernel
theorem dX3_corn_76 : decode cX3_corn 76 = .ok (.iconst 3, 1) := by decide +kernel
theorem dX3_corn_77 : decode cX3_corn 77 = .ok (.invokevirtual 52, 3) := by decide +kernel
theorem dX3_corn_80 : decode cX3_corn 80 = .ok (.ireturn, 1) := by decide +kernel
theorem dX3_when_0 : decode cX3_when 0 = .ok (.iload_n 1, 1) := by decide +kernel
theorem dX3_when_1 : decode cX3_when 1 = .ok (.invokestatic 62, 3) := by decide +kernel
theorem dX3_when_4 : decode cX3_when 4 = .ok (.ifCond .eq 10, 3) := by decide +kernel
theorem dX3_when_7 : decode cX3_when 7 = .ok (.iload_n 2, 1) := by decide +kernel
theorem dX3_when_8 : decode cX3_when 8 = .ok (.invokestatic 65, 3) := by decide +kernel
theorem dX3_when_11 : decode cX3_when 11 = .ok (.ifCond .ne 9, 3) := by decide +kernel
theorem dX3_when_14 : decode cX3_when 14 = .ok (.aload_n 0, 1) := by decide +kernel
theorem dX3_when_15 : decode cX3_when 15 = .ok (.iconst 0, 1) := by decide +kernel
theorem dX3_when_16 : decode cX3_when 16 = .ok (.invokevirtual 52, 3) := by decide +kernel
theorem dX3_when_19 : decode cX3_when 19 = .ok (.ireturn, 1) := by decide +kernel
theorem dX3_when_20 : decode cX3_when 20 = .ok (.aload_n 0, 1) := by decide +kernel
theorem dX3_when_21 : decode cX3_when 21 = .ok (.getfield 16, 3) := by decide +kernel
theorem dX3_when_24 : decode cX3_when 24 = .ok (.aload_n 0, 1) := by decide +kernel
theorem dX3_when_25 : decode cX3_when 25 = .ok (.getfield 12, 3) := by decide +kernel
theorem dX3_when_28 : decode cX3_when 28 = .ok (.invokevirtual 132, 3) := by decide +kernel
theorem dX3_when_31 : decode cX3_when 31 = .ok (.iconst 0, 1) := by decide +kernel
theorem dX3_when_32 : decode cX3_when 32 = .ok (.istore_n 3, 1) := by decide +kernel
theorem dX3_when_33 : decode cX3_when 33 = .ok (.iload_n 3, 1) := by decide +kernel
theorem dX3_when_34 : decode cX3_when 34 = .ok (.bipush 100, 2) := by decide +kernel
theorem dX3_when_36 : decode cX3_when 36 = .ok (.if_icmp .gt 35, 3) := by decide +kernel
theorem dX3_when_39 : decode cX3_when 39 = .ok (.aload_n 0, 1) := by decide +kernel
theorem dX3_when_40 : decode cX3_when 40 = .ok (.getfield 16, 3) := by decide +kernel
theorem dX3_when_43 : decode cX3_when 43 = .ok (.getfield 68, 3) := by decide +kernel
theorem dX3_when_46 : decode cX3_when 46 = .ok (.iload_n 1, 1) := by decide +kernel
theorem dX3_when_47 : decode cX3_when 47 = .ok (.iaload, 1) := by decide +kernel
theorem dX3_when_48 : decode cX3_when 48 = .ok (.iload_n 2, 1) := by decide +kernel
theorem dX3_when_49 : decode cX3_when 49 = .ok (.if_icmp .ne 5, 3) := by decide +kernel
theorem dX3_when_52 : decode cX3_when 52 = .ok (.iload_n 3, 1) := by decide +kernel
theorem dX3_when_53 : decode cX3_when 53 = .ok (.ireturn, 1) := by decide +kernel
theorem dX3_when_54 : decode cX3_when 54 = .ok (.aload_n 0, 1) := by decide +kernel
theorem dX3_when_55 : decode cX3_when 55 = .ok (.getfield 16, 3) := by decide +kernel
theorem dX3_when_58 : decode cX3_when 58 = .ok (.iconst 1, 1) := by decide +kernel
theorem dX3_when_59 : decode cX3_when 59 = .ok (.sipush 255, 3) := by decide +kernel
theorem dX3_when_62 : decode cX3_when 62 = .ok (.invokevirtual 108, 3) := by decide +kernel
theorem dX3_when_65 : decode cX3_when 65 = .ok (.iinc 3 1, 3) := by decide +kernel
theorem dX3_when_68 : decode cX3_when 68 = .ok (.goto (-35), 3) := by decide +kernel
theorem dX3_when_71 : decode cX3_when 71 = .ok (.aload_n 0, 1) := by decide +kernel
theorem dX3_when_72 : decode cX3_when 72 = .ok (.iconst 3, 1) := by decide +kernel
theorem dX3_when_73 : decode cX3_when 73 = .ok (.invokevirtual 52, 3) := by decide +kernel
theorem dX3_when_76 : decode cX3_when 76 = .ok (.ireturn, 1) := by decide +kernel
theorem dX3_meet_0 : decode cX3_meet 0 = .ok (.aload_n 0, 1) := by decide +kernel
theorem dX3_meet_1 : decode cX3_meet 1 = .ok (.iload_n 1, 1) := by decide +kernel
theorem dX3_meet_2 : decode cX3_meet 2 = .ok (.invokevirtual 85, 3) := by decide +kernel
theorem dX3_meet_5 : decode cX3_meet 5 = .ok (.ifCond .eq 16, 3) := by decide +kernel
theorem dX3_meet_8 : decode cX3_meet 8 = .ok (.aload_n 0, 1) := by decide +kernel
theorem dX3_meet_9 : decode cX3_meet 9 = .ok (.iload_n 2, 1) := by decide +kernel
theorem dX3_meet_10 : decode cX3_meet 10 = .ok (.invokevirtual 85, 3) := by decide +kernel
theorem dX3_meet_13 : decode cX3_meet 13 = .ok (.ifCond .eq 8, 3) := by decide +kernel
theorem dX3_meet_16 : decode cX3_meet 16 = .ok (.iload_n 1, 1) := by decide +kernel
theorem dX3_meet_17 : decode cX3_meet 17 = .ok (.iload_n 2, 1) := by decide +kernel
theorem dX3_meet_18 : decode cX3_meet 18 = .ok (.if_icmp .ne 9, 3) := by decide +kernel
theorem dX3_meet_21 : decode cX3_meet 21 = .ok (.aload_n 0, 1) := by decide +kernel
theorem dX3_meet_22 : decode cX3_meet 22 = .ok (.iconst 0, 1) := by decide +kernel
theorem dX3_meet_23 : decode cX3_meet 23 = .ok (.invokevirtual 52, 3) := by decide +kernel
theorem dX3_meet_26 : decode cX3_meet 26 = .ok (.ireturn, 1) := by decide +kernel
theorem dX3_meet_27 : decode cX3_meet 27 = .ok (.aload_n 0, 1) := by decide +kernel
theorem dX3_meet_28 : decode cX3_meet 28 = .ok (.getfield 16, 3) := by decide +kernel
theorem dX3_meet_31 : decode cX3_meet 31 = .ok (.aload_n 0, 1) := by decide +kernel
theorem dX3_meet_32 : decode cX3_meet 32 = .ok (.getfield 12, 3) := by decide +kernel
theorem dX3_meet_35 : decode cX3_meet 35 = .ok (.invokevirtual 132, 3) := by decide +kernel
theorem dX3_meet_38 : decode cX3_meet 38 = .ok (.iconst 0, 1) := by decide +kernel
theorem dX3_meet_39 : decode cX3_meet 39 = .ok (.istore_n 3, 1) := by decide +kernel
theorem dX3_meet_40 : decode cX3_meet 40 = .ok (.iload_n 3, 1) := by decide +kernel
theorem dX3_meet_41 : decode cX3_meet 41 = .ok (.bipush 100, 2) := by decide +kernel
theorem dX3_meet_43 : decode cX3_meet 43 = .ok (.if_icmp .gt 47, 3) := by decide +kernel
theorem dX3_meet_46 : decode cX3_meet 46 = .ok (.aload_n 0, 1) := by decide +kernel
theorem dX3_meet_47 : decode cX3_meet 47 = .ok (.getfield 16, 3) := by decide +kernel
theorem dX3_meet_50 : decode cX3_meet 50 = .ok (.getfield 91, 3) := by decide +kernel
theorem dX3_meet_53 : decode cX3_meet 53 = .ok (.iconst 1, 1) := by decide +kernel
theorem dX3_meet_54 : decode cX3_meet 54 = .ok (.aaload, 1) := by decide +kernel
theorem dX3_meet_55 : decode cX3_meet 55 = .ok (.iload_n 1, 1) := by decide +kernel
theorem dX3_meet_56 : decode cX3_meet 56 = .ok (.iaload, 1) := by decide +kernel
theorem dX3_meet_57 : decode cX3_meet 57 = .ok (.aload_n 0, 1) := by decide +kernel
theorem dX3_meet_58 : decode cX3_meet 58 = .ok (.getfield 16, 3) := by decide +kernel
theorem dX3_meet_61 : decode cX3_meet 61 = .ok (.getfield 91, 3) := by decide +kernel
theorem dX3_meet_64 : decode cX3_meet 64 = .ok (.iconst 1, 1) := by decide +kernel
theorem dX3_meet_65 : decode cX3_meet 65 = .ok (.aaload, 1) := by decide +kernel
theorem dX3_meet_66 : decode cX3_meet 66 = .ok (.iload_n 2, 1) := by decide +kernel
theorem dX3_meet_67 : decode cX3_meet 67 = .ok (.iaload, 1) := by decide +kernel
theorem dX3_meet_68 : decode cX3_meet 68 = .ok (.if_icmp .ne 5, 3) := by decide +kernel
theorem dX3_meet_71 : decode cX3_meet 71 = .ok (.iload_n 3, 1) := by decide +kernel
theorem dX3_meet_72 : decode cX3_meet 72 = .ok (.ireturn, 1) := by decide +kernel
theorem dX3_meet_73 : decode cX3_meet 73 = .ok (.aload_n 0, 1) := by decide +kernel
theorem dX3_meet_74 : decode cX3_meet 74 = .ok (.getfield 16, 3) := by decide +kernel
theorem dX3_meet_77 : decode cX3_meet 77 = .ok (.iconst 1, 1) := by decide +kernel
theorem dX3_meet_78 : decode cX3_meet 78 = .ok (.sipush 255, 3) := by decide +kernel
theorem dX3_meet_81 : decode cX3_meet 81 = .ok (.invokevirtual 108, 3) := by decide +kernel
theorem dX3_meet_84 : decode cX3_meet 84 = .ok (.iinc 3 1, 3) := by decide +kernel
theorem dX3_meet_87 : decode cX3_meet 87 = .ok (.goto (-47), 3) := by decide +kernel
theorem dX3_meet_90 : decode cX3_meet 90 = .ok (.aload_n 0, 1) := by decide +kernel
theorem dX3_meet_91 : decode cX3_meet 91 = .ok (.iconst 3, 1) := by decide +kernel
theorem dX3_meet_92 : decode cX3_meet 92 = .ok (.invokevirtual 52, 3) := by decide +kernel
theorem dX3_meet_95 : decode cX3_meet 95 = .ok (.ireturn, 1) := by decide +kernel
theorem dX3_start_0 : decode cX3_start 0 = .ok (.aload_n 0, 1) := by decide +kernel
theorem dX3_start_1 : decode cX3_start 1 = .ok (.iload_n 1, 1) := by decide +kernel
theorem dX3_start_2 : decode cX3_start 2 = .ok (.iload_n 2, 1) := by decide +kernel
theorem dX3_start_3 : decode cX3_start 3 = .ok (.iload_n 3, 1) := by decide +kernel
theorem dX3_start_4 : decode cX3_start 4 = .ok (.iload 4, 2) := by decide +kernel
theorem dX3_start_6 : decode cX3_start 6 = .ok (.invokevirtual 136, 3) := by decide +kernel
theorem dX3_start_9 : decode cX3_start 9 = .ok (.ifCond .ne 9, 3) := by decide +kernel
theorem dX3_start_12 : decode cX3_start 12 = .ok (.aload_n 0, 1) := by decide +kernel
theorem dX3_start_13 : decode cX3_start 13 = .ok (.iconst 0, 1) := by decide +kernel
theorem dX3_start_14 : decode cX3_start 14 = .ok (.invokevirtual 52, 3) := by decide +kernel
theorem dX3_start_17 : decode cX3_start 17 = .ok (.ireturn, 1) := by decide +kernel
theorem dX3_start_18 : decode cX3_start 18 = .ok (.aload_n 0, 1) := by decide +kernel
theorem dX3_start_19 : decode cX3_start 19 = .ok (.iload_n 1, 1) := by decide +kernel
theorem dX3_start_20 : decode cX3_start 20 = .ok (.iconst 1, 1) := by decide +kernel
theorem dX3_start_21 : decode cX3_start 21 = .ok (.iload_n 2, 1) := by decide +kernel
theorem dX3_start_22 : decode cX3_start 22 = .ok (.iload_n 3, 1) := by decide +kernel
theorem dX3_start_23 : decode cX3_start 23 = .ok (.iload 4, 2) := by decide +kernel
theorem dX3_start_25 : decode cX3_start 25 = .ok (.invokevirtual 140, 3) := by decide +kernel
theorem dX3_start_28 : decode cX3_start 28 = .ok (.istore 5, 2) := by decide +kernel
theorem dX3_start_30 : decode cX3_start 30 = .ok (.iload 5, 2) := by decide +kernel
theorem dX3_start_32 : decode cX3_start 32 = .ok (.ifCond .ne 11, 3) := by decide +kernel
theorem dX3_start_35 : decode cX3_start 35 = .ok (.aload_n 0, 1) := by decide +kernel
theorem dX3_start_36 : decode cX3_start 36 = .ok (.iconst 3, 1) := by decide +kernel
theorem dX3_start_37 : decode cX3_start 37 = .ok (.invokevirtual 52, 3) := by decide +kernel
theorem dX3_start_40 : decode cX3_start 40 = .ok (.goto 8, 3) := by decide +kernel
theorem dX3_start_43 : decode cX3_start 43 = .ok (.iload 5, 2) := by decide +kernel
theorem dX3_start_45 : decode cX3_start 45 = .ok (.invokestatic 144, 3) := by decide +kernel
theorem dX3_start_48 : decode cX3_start 48 = .ok (.ireturn, 1) := by decide +kernel
theorem dX3_kindsFor_0 : decode cX3_kindsFor 0 = .ok (.aload_n 0, 1) := by decide +kernel
theorem dX3_kindsFor_1 : decode cX3_kindsFor 1 = .ok (.iload_n 1, 1) := by decide +kernel
theorem dX3_kindsFor_2 : decode cX3_kindsFor 2 = .ok (.iload_n 2, 1) := by decide +kernel
theorem dX3_kindsFor_3 : decode cX3_kindsFor 3 = .ok (.iload_n 3, 1) := by decide +kernel
theorem dX3_kindsFor_4 : decode cX3_kindsFor 4 = .ok (.iload 4, 2) := by decide +kernel
theorem dX3_kindsFor_6 : decode cX3_kindsFor 6 = .ok (.invokevirtual 136, 3) := by decide +kernel
theorem dX3_kindsFor_9 : decode cX3_kindsFor 9 = .ok (.ifCond .ne 9, 3) := by decide +kernel
theorem dX3_kindsFor_12 : decode cX3_kindsFor 12 = .ok (.aload_n 0, 1) := by decide +kernel
theorem dX3_kindsFor_13 : decode cX3_kindsFor 13 = .ok (.iconst 0, 1) := by decide +kernel
theorem dX3_kindsFor_14 : decode cX3_kindsFor 14 = .ok (.invokevirtual 52, 3) := by decide +kernel
theorem dX3_kindsFor_17 : decode cX3_kindsFor 17 = .ok (.ireturn, 1) := by decide +kernel
theorem dX3_kindsFor_18 : decode cX3_kindsFor 18 = .ok (.aload_n 0, 1) := by decide +kernel
theorem dX3_kindsFor_19 : decode cX3_kindsFor 19 = .ok (.iload_n 1, 1) := by decide +kernel
theorem dX3_kindsFor_20 : decode cX3_kindsFor 20 = .ok (.iconst 0, 1) := by decide +kernel
theorem dX3_kindsFor_21 : decode cX3_kindsFor 21 = .ok (.iload_n 2, 1) := by decide +kernel
theorem dX3_kindsFor_22 : decode cX3_kindsFor 22 = .ok (.iload_n 3, 1) := by decide +kernel
theorem dX3_kindsFor_23 : decode cX3_kindsFor 23 = .ok (.iload 4, 2) := by decide +kernel
theorem dX3_kindsFor_25 : decode cX3_kindsFor 25 = .ok (.invokevirtual 140, 3) := by decide +kernel
theorem dX3_kindsFor_28 : decode cX3_kindsFor 28 = .ok (.ireturn, 1) := by decide +kernel
theorem dX3_moods_0 : decode cX3_moods 0 = .ok (.aload_n 0, 1) := by decide +kernel
theorem dX3_moods_1 : decode cX3_moods 1 = .ok (.iload_n 1, 1) := by decide +kernel
theorem dX3_moods_2 : decode cX3_moods 2 = .ok (.iload_n 2, 1) := by decide +kernel
theorem dX3_moods_3 : decode cX3_moods 3 = .ok (.iload_n 3, 1) := by decide +kernel
theorem dX3_moods_4 : decode cX3_moods 4 = .ok (.iload 4, 2) := by decide +kernel
theorem dX3_moods_6 : decode cX3_moods 6 = .ok (.invokevirtual 136, 3) := by decide +kernel
theorem dX3_moods_9 : decode cX3_moods 9 = .ok (.ifCond .ne 9, 3) := by decide +kernel
theorem dX3_moods_12 : decode cX3_moods 12 = .ok (.aload_n 0, 1) := by decide +kernel
theorem dX3_moods_13 : decode cX3_moods 13 = .ok (.iconst 0, 1) := by decide +kernel
theorem dX3_moods_14 : decode cX3_moods 14 = .ok (.invokevirtual 52, 3) := by decide +kernel
theorem dX3_moods_17 : decode cX3_moods 17 = .ok (.ireturn, 1) := by decide +kernel
theorem dX3_moods_18 : decode cX3_moods 18 = .ok (.aload_n 0, 1) := by decide +kernel
theorem dX3_moods_19 : decode cX3_moods 19 = .ok (.iload_n 1, 1) := by decide +kernel
theorem dX3_moods_20 : decode cX3_moods 20 = .ok (.iconst 3, 1) := by decide +kernel
theorem dX3_moods_21 : decode cX3_moods 21 = .ok (.iload_n 2, 1) := by decide +kernel
theorem dX3_moods_22 : decode cX3_moods 22 = .ok (.iload_n 3, 1) := by decide +kernel
theorem dX3_moods_23 : decode cX3_moods 23 = .ok (.iload 4, 2) := by decide +kernel
theorem dX3_moods_25 : decode cX3_moods 25 = .ok (.invokevirtual 140, 3) := by decide +kernel
theorem dX3_moods_28 : decode cX3_moods 28 = .ok (.ireturn, 1) := by decide +kernel
theorem dX3_windFor_0 : decode cX3_windFor 0 = .ok (.iload_n 1, 1) := by decide +kernel
theorem dX3_windFor_1 : decode cX3_windFor 1 = .ok (.invokestatic 44, 3) := by decide +kernel
theorem dX3_windFor_4 : decode cX3_windFor 4 = .ok (.ifCond .eq 24, 3) := by decide +kernel
theorem dX3_windFor_7 : decode cX3_windFor 7 = .ok (.iload_n 2, 1) := by decide +kernel
theorem dX3_windFor_8 : decode cX3_windFor 8 = .ok (.iconst 0, 1) := by decide +kernel
theorem dX3_windFor_9 : decode cX3_windFor 9 = .ok (.sipush 9999, 3) := by decide +kernel
theorem dX3_windFor_12 : decode cX3_windFor 12 = .ok (.invokestatic 48, 3) := by decide +kernel
theorem dX3_windFor_15 : decode cX3_windFor 15 = .ok (.ifCond .eq 13, 3) := by decide +kernel
theorem dX3_windFor_18 : decode cX3_windFor 18 = .ok (.iload_n 3, 1) := by decide +kernel
theorem dX3_windFor_19 : decode cX3_windFor 19 = .ok (.iconst 0, 1) := by decide +kernel
theorem dX3_windFor_20 : decode cX3_windFor 20 = .ok (.bipush 40, 2) := by decide +kernel
theorem dX3_windFor_22 : decode cX3_windFor 22 = .ok (.invokestatic 48, 3) := by decide +kernel
theorem dX3_windFor_25 : decode cX3_windFor 25 = .ok (.ifCond .ne 9, 3) := by decide +kernel
theorem dX3_windFor_28 : decode cX3_windFor 28 = .ok (.aload_n 0, 1) := by decide +kernel
theorem dX3_windFor_29 : decode cX3_windFor 29 = .ok (.iconst 0, 1) := by decide +kernel
theorem dX3_windFor_30 : decode cX3_windFor 30 = .ok (.invokevirtual 52, 3) := by decide +kernel
theorem dX3_windFor_33 : decode cX3_windFor 33 = .ok (.ireturn, 1) := by decide +kernel
theorem dX3_windFor_34 : decode cX3_windFor 34 = .ok (.iconst 0, 1) := by decide +kernel
theorem dX3_windFor_35 : decode cX3_windFor 35 = .ok (.istore 4, 2) := by decide +kernel
theorem dX3_windFor_37 : decode cX3_windFor 37 = .ok (.iload 4, 2) := by decide +kernel
theorem dX3_windFor_39 : decode cX3_windFor 39 = .ok (.bipush 9, 2) := by decide +kernel
theorem dX3_windFor_41 : decode cX3_windFor 41 = .ok (.if_icmp .gt 56, 3) := by decide +kernel
theorem dX3_windFor_44 : decode cX3_windFor 44 = .ok (.aload_n 0, 1) := by decide +kernel
theorem dX3_windFor_45 : decode cX3_windFor 45 = .ok (.getfield 16, 3) := by decide +kernel
theorem dX3_windFor_48 : decode cX3_windFor 48 = .ok (.aload_n 0, 1) := by decide +kernel
theorem dX3_windFor_49 : decode cX3_windFor 49 = .ok (.getfield 12, 3) := by decide +kernel
theorem dX3_windFor_52 : decode cX3_windFor 52 = .ok (.invokevirtual 132, 3) := by decide +kernel
theorem dX3_windFor_55 : decode cX3_windFor 55 = .ok (.aload_n 0, 1) := by decide +kernel
theorem dX3_windFor_56 : decode cX3_windFor 56 = .ok (.getfield 16, 3) := by decide +kernel
theorem dX3_windFor_59 : decode cX3_windFor 59 = .ok (.iload 4, 2) := by decide +kernel
theorem dX3_windFor_61 : decode cX3_windFor 61 = .ok (.putfield 71, 3) := by decide +kernel
theorem dX3_windFor_64 : decode cX3_windFor 64 = .ok (.aload_n 0, 1) := by decide +kernel
theorem dX3_windFor_65 : decode cX3_windFor 65 = .ok (.getfield 16, 3) := by decide +kernel
theorem dX3_windFor_68 : decode cX3_windFor 68 = .ok (.iload_n 3, 1) := by decide +kernel
theorem dX3_windFor_69 : decode cX3_windFor 69 = .ok (.sipush 255, 3) := by decide +kernel
theorem dX3_windFor_72 : decode cX3_windFor 72 = .ok (.invokevirtual 108, 3) := by decide +kernel
theorem dX3_windFor_75 : decode cX3_windFor 75 = .ok (.aload_n 0, 1) := by decide +kernel
theorem dX3_windFor_76 : decode cX3_windFor 76 = .ok (.getfield 16, 3) := by decide +kernel
theorem dX3_windFor_79 : decode cX3_windFor 79 = .ok (.getfield 56, 3) := by decide +kernel
theorem dX3_windFor_82 : decode cX3_windFor 82 = .ok (.iload_n 1, 1) := by decide +kernel
theorem dX3_windFor_83 : decode cX3_windFor 83 = .ok (.iaload, 1) := by decide +kernel
theorem dX3_windFor_84 : decode cX3_windFor 84 = .ok (.iload_n 2, 1) := by decide +kernel
theorem dX3_windFor_85 : decode cX3_windFor 85 = .ok (.if_icmp .gt 6, 3) := by decide +kernel
theorem dX3_windFor_88 : decode cX3_windFor 88 = .ok (.iload 4, 2) := by decide +kernel
theorem dX3_windFor_90 : decode cX3_windFor 90 = .ok (.ireturn, 1) := by decide +kernel
theorem dX3_windFor_91 : decode cX3_windFor 91 = .ok (.iinc 4 1, 3) := by decide +kernel
theorem dX3_windFor_94 : decode cX3_windFor 94 = .ok (.goto (-57), 3) := by decide +kernel
theorem dX3_windFor_97 : decode cX3_windFor 97 = .ok (.aload_n 0, 1) := by decide +kernel
theorem dX3_windFor_98 : decode cX3_windFor 98 = .ok (.iconst 3, 1) := by decide +kernel
theorem dX3_windFor_99 : decode cX3_windFor 99 = .ok (.invokevirtual 52, 3) := by decide +kernel
theorem dX3_windFor_102 : decode cX3_windFor 102 = .ok (.ireturn, 1) := by decide +kernel
theorem dX3_home_0 : decode cX3_home 0 = .ok (.iload_n 1, 1) := by decide +kernel
theorem dX3_home_1 : decode cX3_home 1 = .ok (.invokestatic 44, 3) := by decide +kernel
theorem dX3_home_4 : decode cX3_home 4 = .ok (.ifCond .eq 24, 3) := by decide +kernel
theorem dX3_home_7 : decode cX3_home 7 = .ok (.iload_n 2, 1) := by decide +kernel
theorem dX3_home_8 : decode cX3_home 8 = .ok (.iconst 0, 1) := by decide +kernel
theorem dX3_home_9 : decode cX3_home 9 = .ok (.sipush 9999, 3) := by decide +kernel
theorem dX3_home_12 : decode cX3_home 12 = .ok (.invokestatic 48, 3) := by decide +kernel
theorem dX3_home_15 : decode cX3_home 15 = .ok (.ifCond .eq 13, 3) := by decide +kernel
theorem dX3_home_18 : decode cX3_home 18 = .ok (.iload_n 3, 1) := by decide +kernel
theorem dX3_home_19 : decode cX3_home 19 = .ok (.iconst 0, 1) := by decide +kernel
theorem dX3_home_20 : decode cX3_home 20 = .ok (.bipush 20, 2) := by decide +kernel
theorem dX3_home_22 : decode cX3_home 22 = .ok (.invokestatic 48, 3) := by decide +kernel
theorem dX3_home_25 : decode cX3_home 25 = .ok (.ifCond .ne 9, 3) := by decide +kernel
theorem dX3_home_28 : decode cX3_home 28 = .ok (.aload_n 0, 1) := by decide +kernel
theorem dX3_home_29 : decode cX3_home 29 = .ok (.iconst 0, 1) := by decide +kernel
theorem dX3_home_30 : decode cX3_home 30 = .ok (.invokevirtual 52, 3) := by decide +kernel
theorem dX3_home_33 : decode cX3_home 33 = .ok (.ireturn, 1) := by decide +kernel
theorem dX3_home_34 : decode cX3_home 34 = .ok (.iconst 0, 1) := by decide +kernel
theorem dX3_home_35 : decode cX3_home 35 = .ok (.istore 4, 2) := by decide +kernel
theorem dX3_home_37 : decode cX3_home 37 = .ok (.iload 4, 2) := by decide +kernel
theorem dX3_home_39 : decode cX3_home 39 = .ok (.aload_n 0, 1) := by decide +kernel
theorem dX3_home_40 : decode cX3_home 40 = .ok (.getfield 12, 3) := by decide +kernel
theorem dX3_home_43 : decode cX3_home 43 = .ok (.getfield 78, 3) := by decide +kernel
theorem dX3_home_46 : decode cX3_home 46 = .ok (.if_icmp .gt 28, 3) := by decide +kernel
theorem dX3_home_49 : decode cX3_home 49 = .ok (.aload_n 0, 1) := by decide +kernel
theorem dX3_home_50 : decode cX3_home 50 = .ok (.iload 4, 2) := by decide +kernel
theorem dX3_home_52 : decode cX3_home 52 = .ok (.iload_n 1, 1) := by decide +kernel
theorem dX3_home_53 : decode cX3_home 53 = .ok (.iload_n 2, 1) := by decide +kernel
theorem dX3_home_54 : decode cX3_home 54 = .ok (.iload_n 3, 1) := by decide +kernel
theorem dX3_home_55 : decode cX3_home 55 = .ok (.invokevirtual 149, 3) := by decide +kernel
theorem dX3_home_58 : decode cX3_home 58 = .ok (.istore 5, 2) := by decide +kernel
theorem dX3_home_60 : decode cX3_home 60 = .ok (.iload 5, 2) := by decide +kernel
theorem dX3_home_62 : decode cX3_home 62 = .ok (.ifCond .lt 6, 3) := by decide +kernel
theorem dX3_home_65 : decode cX3_home 65 = .ok (.iload 5, 2) := by decide +kernel
theorem dX3_home_67 : decode cX3_home 67 = .ok (.ireturn, 1) := by decide +kernel
theorem dX3_home_68 : decode cX3_home 68 = .ok (.iinc 4 1, 3) := by decide +kernel
theorem dX3_home_71 : decode cX3_home 71 = .ok (.goto (-34), 3) := by decide +kernel
theorem dX3_home_74 : decode cX3_home 74 = .ok (.aload_n 0, 1) := by decide +kernel
theorem dX3_home_75 : decode cX3_home 75 = .ok (.iconst 3, 1) := by decide +kernel
theorem dX3_home_76 : decode cX3_home 76 = .ok (.invokevirtual 52, 3) := by decide +kernel
theorem dX3_home_79 : decode cX3_home 79 = .ok (.ireturn, 1) := by decide +kernel
theorem dX3_shut_0 : decode cX3_shut 0 = .ok (.iload_n 1, 1) := by decide +kernel
theorem dX3_shut_1 : decode cX3_shut 1 = .ok (.invokestatic 44, 3) := by decide +kernel
theorem dX3_shut_4 : decode cX3_shut 4 = .ok (.ifCond .eq 13, 3) := by decide +kernel
theorem dX3_shut_7 : decode cX3_shut 7 = .ok (.iload_n 2, 1) := by decide +kernel
theorem dX3_shut_8 : decode cX3_shut 8 = .ok (.iconst 0, 1) := by decide +kernel
theorem dX3_shut_9 : decode cX3_shut 9 = .ok (.bipush 40, 2) := by decide +kernel
theorem dX3_shut_11 : decode cX3_shut 11 = .ok (.invokestatic 48, 3) := by decide +kernel
theorem dX3_shut_14 : decode cX3_shut 14 = .ok (.ifCond .ne 9, 3) := by decide +kernel
theorem dX3_shut_17 : decode cX3_shut 17 = .ok (.aload_n 0, 1) := by decide +kernel
theorem dX3_shut_18 : decode cX3_shut 18 = .ok (.iconst 0, 1) := by decide +kernel
theorem dX3_shut_19 : decode cX3_shut 19 = .ok (.invokevirtual 52, 3) := by decide +kernel
theorem dX3_shut_22 : decode cX3_shut 22 = .ok (.ireturn, 1) := by decide +kernel
theorem dX3_shut_23 : decode cX3_shut 23 = .ok (.iconst 0, 1) := by decide +kernel
theorem dX3_shut_24 : decode cX3_shut 24 = .ok (.istore_n 3, 1) := by decide +kernel
theorem dX3_shut_25 : decode cX3_shut 25 = .ok (.sipush 10000, 3) := by decide +kernel
theorem dX3_shut_28 : decode cX3_shut 28 = .ok (.istore 4, 2) := by decide +kernel
theorem dX3_shut_30 : decode cX3_shut 30 = .ok (.iconst 0, 1) := by decide +kernel
theorem dX3_shut_31 : decode cX3_shut 31 = .ok (.istore 5, 2) := by decide +kernel
theorem dX3_shut_33 : decode cX3_shut 33 = .ok (.iload 5, 2) := by decide +kernel
theorem dX3_shut_35 : decode cX3_shut 35 = .ok (.bipush 8, 2) := by decide +kernel
theorem dX3_shut_37 : decode cX3_shut 37 = .ok (.if_icmp .ge 70, 3) := by decide +kernel
theorem dX3_shut_40 : decode cX3_shut 40 = .ok (.aload_n 0, 1) := by decide +kernel
theorem dX3_shut_41 : decode cX3_shut 41 = .ok (.getfield 16, 3) := by decide +kernel
theorem dX3_shut_44 : decode cX3_shut 44 = .ok (.aload_n 0, 1) := by decide +kernel
theorem dX3_shut_45 : decode cX3_shut 45 = .ok (.getfield 12, 3) := by decide +kernel
theorem dX3_shut_48 : decode cX3_shut 48 = .ok (.invokevirtual 132, 3) := by decide +kernel
theorem dX3_shut_51 : decode cX3_shut 51 = .ok (.aload_n 0, 1) := by decide +kernel
theorem dX3_shut_52 : decode cX3_shut 52 = .ok (.getfield 16, 3) := by decide +kernel
theorem dX3_shut_55 : decode cX3_shut 55 = .ok (.getfield 68, 3) := by decide +kernel
theorem dX3_shut_58 : decode cX3_shut 58 = .ok (.iload 5, 2) := by decide +kernel
theorem dX3_shut_60 : decode cX3_shut 60 = .ok (.iconst 0, 1) := by decide +kernel
theorem dX3_shut_61 : decode cX3_shut 61 = .ok (.iastore, 1) := by decide +kernel
theorem dX3_shut_62 : decode cX3_shut 62 = .ok (.aload_n 0, 1) := by decide +kernel
theorem dX3_shut_63 : decode cX3_shut 63 = .ok (.getfield 16, 3) := by decide +kernel
theorem dX3_shut_66 : decode cX3_shut 66 = .ok (.iload_n 2, 1) := by decide +kernel
theorem dX3_shut_67 : decode cX3_shut 67 = .ok (.sipush 255, 3) := by decide +kernel
theorem dX3_shut_70 : decode cX3_shut 70 = .ok (.invokevirtual 108, 3) := by decide +kernel
theorem dX3_shut_73 : decode cX3_shut 73 = .ok (.aload_n 0, 1) := by decide +kernel
theorem dX3_shut_74 : decode cX3_shut 74 = .ok (.getfield 16, 3) := by decide +kernel
theorem dX3_shut_77 : decode cX3_shut 77 = .ok (.getfield 56, 3) := by decide +kernel
theorem dX3_shut_80 : decode cX3_shut 80 = .ok (.iload_n 1, 1) := by decide +kernel
theorem dX3_shut_81 : decode cX3_shut 81 = .ok (.iaload, 1) := by decide +kernel
theorem dX3_shut_82 : decode cX3_shut 82 = .ok (.iload 4, 2) := by decide +kernel
theorem dX3_shut_84 : decode cX3_shut 84 = .ok (.if_icmp .ge 17, 3) := by decide +kernel
theorem dX3_shut_87 : decode cX3_shut 87 = .ok (.aload_n 0, 1) := by decide +kernel
theorem dX3_shut_88 : decode cX3_shut 88 = .ok (.getfield 16, 3) := by decide +kernel
theorem dX3_shut_91 : decode cX3_shut 91 = .ok (.getfield 56, 3) := by decide +kernel
theorem dX3_shut_94 : decode cX3_shut 94 = .ok (.iload_n 1, 1) := by decide +kernel
theorem dX3_shut_95 : decode cX3_shut 95 = .ok (.iaload, 1) := by decide +kernel
theorem dX3_shut_96 : decode cX3_shut 96 = .ok (.istore 4, 2) := by decide +kernel
theorem dX3_shut_98 : decode cX3_shut 98 = .ok (.iload 5, 2) := by decide +kernel
theorem dX3_shut_100 : decode cX3_shut 100 = .ok (.istore_n 3, 1) := by decide +kernel
theorem dX3_shut_101 : decode cX3_shut 101 = .ok (.iinc 5 1, 3) := by decide +kernel
theorem dX3_shut_104 : decode cX3_shut 104 = .ok (.goto (-71), 3) := by decide +kernel
theorem dX3_shut_107 : decode cX3_shut 107 = .ok (.iload_n 3, 1) := by decide +kernel
theorem dX3_shut_108 : decode cX3_shut 108 = .ok (.ireturn, 1) := by decide +kernel
theorem dX3_who_0 : decode cX3_who 0 = .ok (.aload_n 0, 1) := by decide +kernel
theorem dX3_who_1 : decode cX3_who 1 = .ok (.iload_n 1, 1) := by decide +kernel
theorem dX3_who_2 : decode cX3_who 2 = .ok (.invokevirtual 153, 3) := by decide +kernel
theorem dX3_who_5 : decode cX3_who 5 = .ok (.istore_n 2, 1) := by decide +kernel
theorem dX3_who_6 : decode cX3_who 6 = .ok (.iload_n 2, 1) := by decide +kernel
theorem dX3_who_7 : decode cX3_who 7 = .ok (.iconst (-1), 1) := by decide +kernel
theorem dX3_who_8 : decode cX3_who 8 = .ok (.if_icmp .eq 9, 3) := by decide +kernel
theorem dX3_who_11 : decode cX3_who 11 = .ok (.aload_n 0, 1) := by decide +kernel
theorem dX3_who_12 : decode cX3_who 12 = .ok (.iload_n 2, 1) := by decide +kernel
theorem dX3_who_13 : decode cX3_who 13 = .ok (.invokevirtual 52, 3) := by decide +kernel
theorem dX3_who_16 : decode cX3_who 16 = .ok (.ireturn, 1) := by decide +kernel
theorem dX3_who_17 : decode cX3_who 17 = .ok (.iconst 0, 1) := by decide +kernel
theorem dX3_who_18 : decode cX3_who 18 = .ok (.istore_n 3, 1) := by decide +kernel
theorem dX3_who_19 : decode cX3_who 19 = .ok (.iconst 0, 1) := by decide +kernel
theorem dX3_who_20 : decode cX3_who 20 = .ok (.istore 4, 2) := by decide +kernel
theorem dX3_who_22 : decode cX3_who 22 = .ok (.iload 4, 2) := by decide +kernel
theorem dX3_who_24 : decode cX3_who 24 = .ok (.aload_n 0, 1) := by decide +kernel
theorem dX3_who_25 : decode cX3_who 25 = .ok (.getfield 12, 3) := by decide +kernel
theorem dX3_who_28 : decode cX3_who 28 = .ok (.getfield 78, 3) := by decide +kernel
theorem dX3_who_31 : decode cX3_who 31 = .ok (.if_icmp .ge 55, 3) := by decide +kernel
theorem dX3_who_34 : decode cX3_who 34 = .ok (.aload_n 0, 1) := by decide +kernel
theorem dX3_who_35 : decode cX3_who 35 = .ok (.getfield 16, 3) := by decide +kernel
theorem dX3_who_38 : decode cX3_who 38 = .ok (.aload_n 0, 1) := by decide +kernel
theorem dX3_who_39 : decode cX3_who 39 = .ok (.getfield 12, 3) := by decide +kernel
theorem dX3_who_42 : decode cX3_who 42 = .ok (.invokevirtual 132, 3) := by decide +kernel
theorem dX3_who_45 : decode cX3_who 45 = .ok (.aload_n 0, 1) := by decide +kernel
theorem dX3_who_46 : decode cX3_who 46 = .ok (.getfield 16, 3) := by decide +kernel
theorem dX3_who_49 : decode cX3_who 49 = .ok (.iconst 1, 1) := by decide +kernel
theorem dX3_who_50 : decode cX3_who 50 = .ok (.iconst 1, 1) := by decide +kernel
theorem dX3_who_51 : decode cX3_who 51 = .ok (.iload 4, 2) := by decide +kernel
theorem dX3_who_53 : decode cX3_who 53 = .ok (.ishl, 1) := by decide +kernel
theorem dX3_who_54 : decode cX3_who 54 = .ok (.invokevirtual 108, 3) := by decide +kernel
theorem dX3_who_57 : decode cX3_who 57 = .ok (.aload_n 0, 1) := by decide +kernel
theorem dX3_who_58 : decode cX3_who 58 = .ok (.getfield 16, 3) := by decide +kernel
theorem dX3_who_61 : decode cX3_who 61 = .ok (.aload_n 0, 1) := by decide +kernel
theorem dX3_who_62 : decode cX3_who 62 = .ok (.getfield 35, 3) := by decide +kernel
theorem dX3_who_65 : decode cX3_who 65 = .ok (.iload_n 1, 1) := by decide +kernel
theorem dX3_who_66 : decode cX3_who 66 = .ok (.aaload, 1) := by decide +kernel
theorem dX3_who_67 : decode cX3_who 67 = .ok (.invokevirtual 156, 3) := by decide +kernel
theorem dX3_who_70 : decode cX3_who 70 = .ok (.ifCond .eq 10, 3) := by decide +kernel
theorem dX3_who_73 : decode cX3_who 73 = .ok (.iload_n 3, 1) := by decide +kernel
theorem dX3_who_74 : decode cX3_who 74 = .ok (.iconst 1, 1) := by decide +kernel
theorem dX3_who_75 : decode cX3_who 75 = .ok (.iload 4, 2) := by decide +kernel
theorem dX3_who_77 : decode cX3_who 77 = .ok (.ishl, 1) := by decide +kernel
theorem dX3_who_78 : decode cX3_who 78 = .ok (.ior, 1) := by decide +kernel
theorem dX3_who_79 : decode cX3_who 79 = .ok (.istore_n 3, 1) := by decide +kernel
theorem dX3_who_80 : decode cX3_who 80 = .ok (.iinc 4 1, 3) := by decide +kernel
theorem dX3_who_83 : decode cX3_who 83 = .ok (.goto (-61), 3) := by decide +kernel
theorem dX3_who_86 : decode cX3_who 86 = .ok (.iload_n 3, 1) := by decide +kernel
theorem dX3_who_87 : decode cX3_who 87 = .ok (.ireturn, 1) := by decide +kernel
theorem dX3_fits_0 : decode cX3_fits 0 = .ok (.aload_n 0, 1) := by decide +kernel
theorem dX3_fits_1 : decode cX3_fits 1 = .ok (.iload_n 1, 1) := by decide +kernel
theorem dX3_fits_2 : decode cX3_fits 2 = .ok (.invokevirtual 153, 3) := by decide +kernel
theorem dX3_fits_5 : decode cX3_fits 5 = .ok (.istore 4, 2) := by decide +kernel
theorem dX3_fits_7 : decode cX3_fits 7 = .ok (.iload 4, 2) := by decide +kernel
theorem dX3_fits_9 : decode cX3_fits 9 = .ok (.iconst (-1), 1) := by decide +kernel
theorem dX3_fits_10 : decode cX3_fits 10 = .ok (.if_icmp .eq 10, 3) := by decide +kernel
theorem dX3_fits_13 : decode cX3_fits 13 = .ok (.aload_n 0, 1) := by decide +kernel
theorem dX3_fits_14 : decode cX3_fits 14 = .ok (.iload 4, 2) := by decide +kernel
theorem dX3_fits_16 : decode cX3_fits 16 = .ok (.invokevirtual 52, 3) := by decide +kernel
theorem dX3_fits_19 : decode cX3_fits 19 = .ok (.ireturn, 1) := by decide +kernel
theorem dX3_fits_20 : decode cX3_fits 20 = .ok (.aload_n 0, 1) := by decide +kernel
theorem dX3_fits_21 : decode cX3_fits 21 = .ok (.iload_n 2, 1) := by decide +kernel
theorem dX3_fits_22 : decode cX3_fits 22 = .ok (.invokevirtual 85, 3) := by decide +kernel
theorem dX3_fits_25 : decode cX3_fits 25 = .ok (.ifCond .eq 13, 3) := by decide +kernel
theorem dX3_fits_28 : decode cX3_fits 28 = .ok (.iload_n 3, 1) := by decide +kernel
theorem dX3_fits_29 : decode cX3_fits 29 = .ok (.iconst 0, 1) := by decide +kernel
theorem dX3_fits_30 : decode cX3_fits 30 = .ok (.bipush 20, 2) := by decide +kernel
theorem dX3_fits_32 : decode cX3_fits 32 = .ok (.invokestatic 48, 3) := by decide +kernel
theorem dX3_fits_35 : decode cX3_fits 35 = .ok (.ifCond .ne 9, 3) := by decide +kernel
theorem dX3_fits_38 : decode cX3_fits 38 = .ok (.aload_n 0, 1) := by decide +kernel
theorem dX3_fits_39 : decode cX3_fits 39 = .ok (.iconst 0, 1) := by decide +kernel
theorem dX3_fits_40 : decode cX3_fits 40 = .ok (.invokevirtual 52, 3) := by decide +kernel
theorem dX3_fits_43 : decode cX3_fits 43 = .ok (.ireturn, 1) := by decide +kernel
theorem dX3_fits_44 : decode cX3_fits 44 = .ok (.iconst 0, 1) := by decide +kernel
theorem dX3_fits_45 : decode cX3_fits 45 = .ok (.istore 5, 2) := by decide +kernel
theorem dX3_fits_47 : decode cX3_fits 47 = .ok (.iconst 0, 1) := by decide +kernel
theorem dX3_fits_48 : decode cX3_fits 48 = .ok (.istore 6, 2) := by decide +kernel
theorem dX3_fits_50 : decode cX3_fits 50 = .ok (.iload 6, 2) := by decide +kernel
theorem dX3_fits_52 : decode cX3_fits 52 = .ok (.bipush 9, 2) := by decide +kernel
theorem dX3_fits_54 : decode cX3_fits 54 = .ok (.if_icmp .ge 69, 3) := by decide +kernel
theorem dX3_fits_57 : decode cX3_fits 57 = .ok (.aload_n 0, 1) := by decide +kernel
theorem dX3_fits_58 : decode cX3_fits 58 = .ok (.getfield 16, 3) := by decide +kernel
theorem dX3_fits_61 : decode cX3_fits 61 = .ok (.aload_n 0, 1) := by decide +kernel
theorem dX3_fits_62 : decode cX3_fits 62 = .ok (.getfield 12, 3) := by decide +kernel
theorem dX3_fits_65 : decode cX3_fits 65 = .ok (.invokevirtual 132, 3) := by decide +kernel
theorem dX3_fits_68 : decode cX3_fits 68 = .ok (.aload_n 0, 1) := by decide +kernel
theorem dX3_fits_69 : decode cX3_fits 69 = .ok (.getfield 16, 3) := by decide +kernel
theorem dX3_fits_72 : decode cX3_fits 72 = .ok (.getfield 91, 3) := by decide +kernel
theorem dX3_fits_75 : decode cX3_fits 75 = .ok (.iconst 1, 1) := by decide +kernel
theorem dX3_fits_76 : decode cX3_fits 76 = .ok (.aaload, 1) := by decide +kernel
theorem dX3_fits_77 : decode cX3_fits 77 = .ok (.iload_n 2, 1) := by decide +kernel
theorem dX3_fits_78 : decode cX3_fits 78 = .ok (.iload 6, 2) := by decide +kernel
theorem dX3_fits_80 : decode cX3_fits 80 = .ok (.iastore, 1) := by decide +kernel
theorem dX3_fits_81 : decode cX3_fits 81 = .ok (.aload_n 0, 1) := by decide +kernel
theorem dX3_fits_82 : decode cX3_fits 82 = .ok (.getfield 16, 3) := by decide +kernel
theorem dX3_fits_85 : decode cX3_fits 85 = .ok (.iload_n 3, 1) := by decide +kernel
theorem dX3_fits_86 : decode cX3_fits 86 = .ok (.iconst 1, 1) := by decide +kernel
theorem dX3_fits_87 : decode cX3_fits 87 = .ok (.iload_n 2, 1) := by decide +kernel
theorem dX3_fits_88 : decode cX3_fits 88 = .ok (.ishl, 1) := by decide +kernel
theorem dX3_fits_89 : decode cX3_fits 89 = .ok (.invokevirtual 108, 3) := by decide +kernel
theorem dX3_fits_92 : decode cX3_fits 92 = .ok (.aload_n 0, 1) := by decide +kernel
theorem dX3_fits_93 : decode cX3_fits 93 = .ok (.getfield 16, 3) := by decide +kernel
theorem dX3_fits_96 : decode cX3_fits 96 = .ok (.aload_n 0, 1) := by decide +kernel
theorem dX3_fits_97 : decode cX3_fits 97 = .ok (.getfield 35, 3) := by decide +kernel
theorem dX3_fits_100 : decode cX3_fits 100 = .ok (.iload_n 1, 1) := by decide +kernel
theorem dX3_fits_101 : decode cX3_fits 101 = .ok (.aaload, 1) := by decide +kernel
theorem dX3_fits_102 : decode cX3_fits 102 = .ok (.invokevirtual 156, 3) := by decide +kernel
theorem dX3_fits_105 : decode cX3_fits 105 = .ok (.ifCond .eq 12, 3) := by decide +kernel
theorem dX3_fits_108 : decode cX3_fits 108 = .ok (.iload 5, 2) := by decide +kernel
theorem dX3_fits_110 : decode cX3_fits 110 = .ok (.iconst 1, 1) := by decide +kernel
theorem dX3_fits_111 : decode cX3_fits 111 = .ok (.iload 6, 2) := by decide +kernel
theorem dX3_fits_113 : decode cX3_fits 113 = .ok (.ishl, 1) := by decide +kernel
theorem dX3_fits_114 : decode cX3_fits 114 = .ok (.ior, 1) := by decide +kernel
theorem dX3_fits_115 : decode cX3_fits 115 = .ok (.istore 5, 2) := by decide +kernel
theorem dX3_fits_117 : decode cX3_fits 117 = .ok (.iinc 6 1, 3) := by decide +kernel
theorem dX3_fits_120 : decode cX3_fits 120 = .ok (.goto (-70), 3) := by decide +kernel
theorem dX3_fits_123 : decode cX3_fits 123 = .ok (.iload 5, 2) := by decide +kernel
theorem dX3_fits_125 : decode cX3_fits 125 = .ok (.ireturn, 1) := by decide +kernel
theorem dX3_kinds_0 : decode cX3_kinds 0 = .ok (.aload_n 0, 1) := by decide +kernel
theorem dX3_kinds_1 : decode cX3_kinds 1 = .ok (.iload_n 1, 1) := by decide +kernel
theorem dX3_kinds_2 : decode cX3_kinds 2 = .ok (.invokevirtual 153, 3) := by decide +kernel
theorem dX3_kinds_5 : decode cX3_kinds 5 = .ok (.istore_n 3, 1) := by decide +kernel
theorem dX3_kinds_6 : decode cX3_kinds 6 = .ok (.iload_n 3, 1) := by decide +kernel
theorem dX3_kinds_7 : decode cX3_kinds 7 = .ok (.iconst (-1), 1) := by decide +kernel
theorem dX3_kinds_8 : decode cX3_kinds 8 = .ok (.if_icmp .eq 9, 3) := by decide +kernel
theorem dX3_kinds_11 : decode cX3_kinds 11 = .ok (.aload_n 0, 1) := by decide +kernel
theorem dX3_kinds_12 : decode cX3_kinds 12 = .ok (.iload_n 3, 1) := by decide +kernel
theorem dX3_kinds_13 : decode cX3_kinds 13 = .ok (.invokevirtual 52, 3) := by decide +kernel
theorem dX3_kinds_16 : decode cX3_kinds 16 = .ok (.ireturn, 1) := by decide +kernel
theorem dX3_kinds_17 : decode cX3_kinds 17 = .ok (.aload_n 0, 1) := by decide +kernel
theorem dX3_kinds_18 : decode cX3_kinds 18 = .ok (.iload_n 2, 1) := by decide +kernel
theorem dX3_kinds_19 : decode cX3_kinds 19 = .ok (.invokevirtual 85, 3) := by decide +kernel
theorem dX3_kinds_22 : decode cX3_kinds 22 = .ok (.ifCond .ne 9, 3) := by decide +kernel
theorem dX3_kinds_25 : decode cX3_kinds 25 = .ok (.aload_n 0, 1) := by decide +kernel
theorem dX3_kinds_26 : decode cX3_kinds 26 = .ok (.iconst 0, 1) := by decide +kernel
theorem dX3_kinds_27 : decode cX3_kinds 27 = .ok (.invokevirtual 52, 3) := by decide +kernel
theorem dX3_kinds_30 : decode cX3_kinds 30 = .ok (.ireturn, 1) := by decide +kernel
theorem dX3_kinds_31 : decode cX3_kinds 31 = .ok (.iconst 0, 1) := by decide +kernel
theorem dX3_kinds_32 : decode cX3_kinds 32 = .ok (.istore 4, 2) := by decide +kernel
theorem dX3_kinds_34 : decode cX3_kinds 34 = .ok (.iconst 0, 1) := by decide +kernel
theorem dX3_kinds_35 : decode cX3_kinds 35 = .ok (.istore 5, 2) := by decide +kernel
theorem dX3_kinds_37 : decode cX3_kinds 37 = .ok (.iload 5, 2) := by decide +kernel
theorem dX3_kinds_39 : decode cX3_kinds 39 = .ok (.bipush 7, 2) := by decide +kernel
theorem dX3_kinds_41 : decode cX3_kinds 41 = .ok (.if_icmp .ge 56, 3) := by decide +kernel
theorem dX3_kinds_44 : decode cX3_kinds 44 = .ok (.aload_n 0, 1) := by decide +kernel
theorem dX3_kinds_45 : decode cX3_kinds 45 = .ok (.getfield 16, 3) := by decide +kernel
theorem dX3_kinds_48 : decode cX3_kinds 48 = .ok (.aload_n 0, 1) := by decide +kernel
theorem dX3_kinds_49 : decode cX3_kinds 49 = .ok (.getfield 12, 3) := by decide +kernel
theorem dX3_kinds_52 : decode cX3_kinds 52 = .ok (.invokevirtual 132, 3) := by decide +kernel
theorem dX3_kinds_55 : decode cX3_kinds 55 = .ok (.aload_n 0, 1) := by decide +kernel
theorem dX3_kinds_56 : decode cX3_kinds 56 = .ok (.getfield 16, 3) := by decide +kernel
theorem dX3_kinds_59 : decode cX3_kinds 59 = .ok (.getfield 91, 3) := by decide +kernel
theorem dX3_kinds_62 : decode cX3_kinds 62 = .ok (.iconst 0, 1) := by decide +kernel
theorem dX3_kinds_63 : decode cX3_kinds 63 = .ok (.aaload, 1) := by decide +kernel
theorem dX3_kinds_64 : decode cX3_kinds 64 = .ok (.iload_n 2, 1) := by decide +kernel
theorem dX3_kinds_65 : decode cX3_kinds 65 = .ok (.iload 5, 2) := by decide +kernel
theorem dX3_kinds_67 : decode cX3_kinds 67 = .ok (.iastore, 1) := by decide +kernel
theorem dX3_kinds_68 : decode cX3_kinds 68 = .ok (.aload_n 0, 1) := by decide +kernel
theorem dX3_kinds_69 : decode cX3_kinds 69 = .ok (.aload_n 0, 1) := by decide +kernel
theorem dX3_kinds_70 : decode cX3_kinds 70 = .ok (.getfield 35, 3) := by decide +kernel
theorem dX3_kinds_73 : decode cX3_kinds 73 = .ok (.iload_n 1, 1) := by decide +kernel
theorem dX3_kinds_74 : decode cX3_kinds 74 = .ok (.aaload, 1) := by decide +kernel
theorem dX3_kinds_75 : decode cX3_kinds 75 = .ok (.iload_n 2, 1) := by decide +kernel
theorem dX3_kinds_76 : decode cX3_kinds 76 = .ok (.invokevirtual 160, 3) := by decide +kernel
theorem dX3_kinds_79 : decode cX3_kinds 79 = .ok (.ifCond .eq 12, 3) := by decide +kernel
theorem dX3_kinds_82 : decode cX3_kinds 82 = .ok (.iload 4, 2) := by decide +kernel
theorem dX3_kinds_84 : decode cX3_kinds 84 = .ok (.iconst 1, 1) := by decide +kernel
theorem dX3_kinds_85 : decode cX3_kinds 85 = .ok (.iload 5, 2) := by decide +kernel
theorem dX3_kinds_87 : decode cX3_kinds 87 = .ok (.ishl, 1) := by decide +kernel
theorem dX3_kinds_88 : decode cX3_kinds 88 = .ok (.ior, 1) := by decide +kernel
theorem dX3_kinds_89 : decode cX3_kinds 89 = .ok (.istore 4, 2) := by decide +kernel
theorem dX3_kinds_91 : decode cX3_kinds 91 = .ok (.iinc 5 1, 3) := by decide +kernel
theorem dX3_kinds_94 : decode cX3_kinds 94 = .ok (.goto (-57), 3) := by decide +kernel
theorem dX3_kinds_97 : decode cX3_kinds 97 = .ok (.iload 4, 2) := by decide +kernel
theorem dX3_kinds_99 : decode cX3_kinds 99 = .ok (.ireturn, 1) := by decide +kernel
theorem dX3_gales_0 : decode cX3_gales 0 = .ok (.iload_n 1, 1) := by decide +kernel
theorem dX3_gales_1 : decode cX3_gales 1 = .ok (.iconst 1, 1) := by decide +kernel
theorem dX3_gales_2 : decode cX3_gales 2 = .ok (.bipush 20, 2) := by decide +kernel
theorem dX3_gales_4 : decode cX3_gales 4 = .ok (.invokestatic 48, 3) := by decide +kernel
theorem dX3_gales_7 : decode cX3_gales 7 = .ok (.ifCond .ne 9, 3) := by decide +kernel
theorem dX3_gales_10 : decode cX3_gales 10 = .ok (.aload_n 0, 1) := by decide +kernel
theorem dX3_gales_11 : decode cX3_gales 11 = .ok (.iconst 0, 1) := by decide +kernel
theorem dX3_gales_12 : decode cX3_gales 12 = .ok (.invokevirtual 52, 3) := by decide +kernel
theorem dX3_gales_15 : decode cX3_gales 15 = .ok (.ireturn, 1) := by decide +kernel
theorem dX3_gales_16 : decode cX3_gales 16 = .ok (.aload_n 0, 1) := by decide +kernel
theorem dX3_gales_17 : decode cX3_gales 17 = .ok (.getfield 12, 3) := by decide +kernel
theorem dX3_gales_20 : decode cX3_gales 20 = .ok (.getfield 104, 3) := by decide +kernel
theorem dX3_gales_23 : decode cX3_gales 23 = .ok (.iload_n 1, 1) := by decide +kernel
theorem dX3_gales_24 : decode cX3_gales 24 = .ok (.iadd, 1) := by decide +kernel
theorem dX3_gales_25 : decode cX3_gales 25 = .ok (.ldc 107, 2) := by decide +kernel
theorem dX3_gales_27 : decode cX3_gales 27 = .ok (.if_icmp .le 9, 3) := by decide +kernel
theorem dX3_gales_30 : decode cX3_gales 30 = .ok (.aload_n 0, 1) := by decide +kernel
theorem dX3_gales_31 : decode cX3_gales 31 = .ok (.iconst 4, 1) := by decide +kernel
theorem dX3_gales_32 : decode cX3_gales 32 = .ok (.invokevirtual 52, 3) := by decide +kernel
theorem dX3_gales_35 : decode cX3_gales 35 = .ok (.ireturn, 1) := by decide +kernel
theorem dX3_gales_36 : decode cX3_gales 36 = .ok (.iconst 0, 1) := by decide +kernel
theorem dX3_gales_37 : decode cX3_gales 37 = .ok (.istore_n 2, 1) := by decide +kernel
theorem dX3_gales_38 : decode cX3_gales 38 = .ok (.iload_n 2, 1) := by decide +kernel
theorem dX3_gales_39 : decode cX3_gales 39 = .ok (.iload_n 1, 1) := by decide +kernel
theorem dX3_gales_40 : decode cX3_gales 40 = .ok (.if_icmp .ge 56, 3) := by decide +kernel
theorem dX3_gales_43 : decode cX3_gales 43 = .ok (.aload_n 0, 1) := by decide +kernel
theorem dX3_gales_44 : decode cX3_gales 44 = .ok (.getfield 12, 3) := by decide +kernel
theorem dX3_gales_47 : decode cX3_gales 47 = .ok (.aload_n 0, 1) := by decide +kernel
theorem dX3_gales_48 : decode cX3_gales 48 = .ok (.getfield 12, 3) := by decide +kernel
theorem dX3_gales_51 : decode cX3_gales 51 = .ok (.invokevirtual 164, 3) := by decide +kernel
theorem dX3_gales_54 : decode cX3_gales 54 = .ok (.bipush 10, 2) := by decide +kernel
theorem dX3_gales_56 : decode cX3_gales 56 = .ok (.irem, 1) := by decide +kernel
theorem dX3_gales_57 : decode cX3_gales 57 = .ok (.putfield 71, 3) := by decide +kernel
theorem dX3_gales_60 : decode cX3_gales 60 = .ok (.aload_n 0, 1) := by decide +kernel
theorem dX3_gales_61 : decode cX3_gales 61 = .ok (.getfield 12, 3) := by decide +kernel
theorem dX3_gales_64 : decode cX3_gales 64 = .ok (.getfield 68, 3) := by decide +kernel
theorem dX3_gales_67 : decode cX3_gales 67 = .ok (.aload_n 0, 1) := by decide +kernel
theorem dX3_gales_68 : decode cX3_gales 68 = .ok (.getfield 12, 3) := by decide +kernel
theorem dX3_gales_71 : decode cX3_gales 71 = .ok (.invokevirtual 164, 3) := by decide +kernel
theorem dX3_gales_74 : decode cX3_gales 74 = .ok (.bipush 8, 2) := by decide +kernel
theorem dX3_gales_76 : decode cX3_gales 76 = .ok (.irem, 1) := by decide +kernel
theorem dX3_gales_77 : decode cX3_gales 77 = .ok (.iconst 2, 1) := by decide +kernel
theorem dX3_gales_78 : decode cX3_gales 78 = .ok (.iastore, 1) := by decide +kernel
theorem dX3_gales_79 : decode cX3_gales 79 = .ok (.aload_n 0, 1) := by decide +kernel
theorem dX3_gales_80 : decode cX3_gales 80 = .ok (.getfield 12, 3) := by decide +kernel
theorem dX3_gales_83 : decode cX3_gales 83 = .ok (.iconst 1, 1) := by decide +kernel
theorem dX3_gales_84 : decode cX3_gales 84 = .ok (.sipush 255, 3) := by decide +kernel
theorem dX3_gales_87 : decode cX3_gales 87 = .ok (.invokevirtual 108, 3) := by decide +kernel
theorem dX3_gales_90 : decode cX3_gales 90 = .ok (.iinc 2 1, 3) := by decide +kernel
theorem dX3_gales_93 : decode cX3_gales 93 = .ok (.goto (-55), 3) := by decide +kernel
theorem dX3_gales_96 : decode cX3_gales 96 = .ok (.aload_n 0, 1) := by decide +kernel
theorem dX3_gales_97 : decode cX3_gales 97 = .ok (.getfield 12, 3) := by decide +kernel
theorem dX3_gales_100 : decode cX3_gales 100 = .ok (.invokevirtual 119, 3) := by decide +kernel
theorem dX3_gales_103 : decode cX3_gales 103 = .ok (.ireturn, 1) := by decide +kernel
theorem dX3_odds_0 : decode cX3_odds 0 = .ok (.iload_n 1, 1) := by decide +kernel
theorem dX3_odds_1 : decode cX3_odds 1 = .ok (.iconst 0, 1) := by decide +kernel
theorem dX3_odds_2 : decode cX3_odds 2 = .ok (.bipush 20, 2) := by decide +kernel
theorem dX3_odds_4 : decode cX3_odds 4 = .ok (.invokestatic 48, 3) := by decide +kernel
theorem dX3_odds_7 : decode cX3_odds 7 = .ok (.ifCond .eq 12, 3) := by decide +kernel
theorem dX3_odds_10 : decode cX3_odds 10 = .ok (.iload_n 2, 1) := by decide +kernel
theorem dX3_odds_11 : decode cX3_odds 11 = .ok (.iconst 0, 1) := by decide +kernel
theorem dX3_odds_12 : decode cX3_odds 12 = .ok (.iconst 1, 1) := by decide +kernel
theorem dX3_odds_13 : decode cX3_odds 13 = .ok (.invokestatic 48, 3) := by decide +kernel
theorem dX3_odds_16 : decode cX3_odds 16 = .ok (.ifCond .ne 10, 3) := by decide +kernel
theorem dX3_odds_19 : decode cX3_odds 19 = .ok (.aload_n 0, 1) := by decide +kernel
theorem dX3_odds_20 : decode cX3_odds 20 = .ok (.iconst 0, 1) := by decide +kernel
theorem dX3_odds_21 : decode cX3_odds 21 = .ok (.invokevirtual 52, 3) := by decide +kernel
theorem dX3_odds_24 : decode cX3_odds 24 = .ok (.i2l, 1) := by decide +kernel
theorem dX3_odds_25 : decode cX3_odds 25 = .ok (.lreturn, 1) := by decide +kernel
theorem dX3_odds_26 : decode cX3_odds 26 = .ok (.aload_n 0, 1) := by decide +kernel
theorem dX3_odds_27 : decode cX3_odds 27 = .ok (.getfield 12, 3) := by decide +kernel
theorem dX3_odds_30 : decode cX3_odds 30 = .ok (.invokevirtual 119, 3) := by decide +kernel
theorem dX3_odds_33 : decode cX3_odds 33 = .ok (.invokestatic 167, 3) := by decide +kernel
theorem dX3_odds_36 : decode cX3_odds 36 = .ok (.istore_n 3, 1) := by decide +kernel
theorem dX3_odds_37 : decode cX3_odds 37 = .ok (.bipush 8, 2) := by decide +kernel
theorem dX3_odds_39 : decode cX3_odds 39 = .ok (.istore 4, 2) := by decide +kernel
theorem dX3_odds_41 : decode cX3_odds 41 = .ok (.iconst 0, 1) := by decide +kernel
theorem dX3_odds_42 : decode cX3_odds 42 = .ok (.istore 5, 2) := by decide +kernel
theorem dX3_odds_44 : decode cX3_odds 44 = .ok (.iload 5, 2) := by decide +kernel
theorem dX3_odds_46 : decode cX3_odds 46 = .ok (.iconst 3, 1) := by decide +kernel
theorem dX3_odds_47 : decode cX3_odds 47 = .ok (.if_icmp .ge 31, 3) := by decide +kernel
theorem dX3_odds_50 : decode cX3_odds 50 = .ok (.iload_n 3, 1) := by decide +kernel
theorem dX3_odds_51 : decode cX3_odds 51 = .ok (.iconst 2, 1) := by decide +kernel
theorem dX3_odds_52 : decode cX3_odds 52 = .ok (.irem, 1) := by decide +kernel
theorem dX3_odds_53 : decode cX3_odds 53 = .ok (.ifCond .ne 25, 3) := by decide +kernel
theorem dX3_odds_56 : decode cX3_odds 56 = .ok (.iload 4, 2) := by decide +kernel
theorem dX3_odds_58 : decode cX3_odds 58 = .ok (.iconst 1, 1) := by decide +kernel
theorem dX3_odds_59 : decode cX3_odds 59 = .ok (.if_icmp .le 19, 3) := by decide +kernel
theorem dX3_odds_62 : decode cX3_odds 62 = .ok (.iload_n 3, 1) := by decide +kernel
theorem dX3_odds_63 : decode cX3_odds 63 = .ok (.iconst 2, 1) := by decide +kernel
theorem dX3_odds_64 : decode cX3_odds 64 = .ok (.idiv, 1) := by decide +kernel
theorem dX3_odds_65 : decode cX3_odds 65 = .ok (.istore_n 3, 1) := by decide +kernel
theorem dX3_odds_66 : decode cX3_odds 66 = .ok (.iload 4, 2) := by decide +kernel
theorem dX3_odds_68 : decode cX3_odds 68 = .ok (.iconst 2, 1) := by decide +kernel
theorem dX3_odds_69 : decode cX3_odds 69 = .ok (.idiv, 1) := by decide +kernel
theorem dX3_odds_70 : decode cX3_odds 70 = .ok (.istore 4, 2) := by decide +kernel
theorem dX3_odds_72 : decode cX3_odds 72 = .ok (.iinc 5 1, 3) := by decide +kernel
theorem dX3_odds_75 : decode cX3_odds 75 = .ok (.goto (-31), 3) := by decide +kernel
theorem dX3_odds_78 : decode cX3_odds 78 = .ok (.iload_n 2, 1) := by decide +kernel
theorem dX3_odds_79 : decode cX3_odds 79 = .ok (.ifCond .ne 7, 3) := by decide +kernel
theorem dX3_odds_82 : decode cX3_odds 82 = .ok (.iload_n 3, 1) := by decide +kernel
theorem dX3_odds_83 : decode cX3_odds 83 = .ok (.goto 5, 3) := by decide +kernel
theorem dX3_odds_86 : decode cX3_odds 86 = .ok (.iload 4, 2) := by decide +kernel
theorem dX3_odds_88 : decode cX3_odds 88 = .ok (.iload_n 1, 1) := by decide +kernel
theorem dX3_odds_89 : decode cX3_odds 89 = .ok (.invokestatic 170, 3) := by decide +kernel
theorem dX3_odds_92 : decode cX3_odds 92 = .ok (.lreturn, 1) := by decide +kernel
theorem dX3_seed_0 : decode cX3_seed 0 = .ok (.aload_n 0, 1) := by decide +kernel
theorem dX3_seed_1 : decode cX3_seed 1 = .ok (.getfield 12, 3) := by decide +kernel
theorem dX3_seed_4 : decode cX3_seed 4 = .ok (.getfield 174, 3) := by decide +kernel
theorem dX3_seed_7 : decode cX3_seed 7 = .ok (.istore_n 2, 1) := by decide +kernel
theorem dX3_seed_8 : decode cX3_seed 8 = .ok (.aload_n 0, 1) := by decide +kernel
theorem dX3_seed_9 : decode cX3_seed 9 = .ok (.getfield 12, 3) := by decide +kernel
theorem dX3_seed_12 : decode cX3_seed 12 = .ok (.iload_n 1, 1) := by decide +kernel
theorem dX3_seed_13 : decode cX3_seed 13 = .ok (.putfield 174, 3) := by decide +kernel
theorem dX3_seed_16 : decode cX3_seed 16 = .ok (.iload_n 2, 1) := by decide +kernel
theorem dX3_seed_17 : decode cX3_seed 17 = .ok (.ireturn, 1) := by decide +kernel
theorem dX3_feed_0 : decode cX3_feed 0 = .ok (.iload_n 2, 1) := by decide +kernel
theorem dX3_feed_1 : decode cX3_feed 1 = .ok (.iconst 1, 1) := by decide +kernel
theorem dX3_feed_2 : decode cX3_feed 2 = .ok (.iconst 4, 1) := by decide +kernel
theorem dX3_feed_3 : decode cX3_feed 3 = .ok (.invokestatic 48, 3) := by decide +kernel
theorem dX3_feed_6 : decode cX3_feed 6 = .ok (.ifCond .ne 9, 3) := by decide +kernel
theorem dX3_feed_9 : decode cX3_feed 9 = .ok (.aload_n 0, 1) := by decide +kernel
theorem dX3_feed_10 : decode cX3_feed 10 = .ok (.iconst 0, 1) := by decide +kernel
theorem dX3_feed_11 : decode cX3_feed 11 = .ok (.invokevirtual 52, 3) := by decide +kernel
theorem dX3_feed_14 : decode cX3_feed 14 = .ok (.ireturn, 1) := by decide +kernel
theorem dX3_feed_15 : decode cX3_feed 15 = .ok (.aload_n 0, 1) := by decide +kernel
theorem dX3_feed_16 : decode cX3_feed 16 = .ok (.getfield 29, 3) := by decide +kernel
theorem dX3_feed_19 : decode cX3_feed 19 = .ok (.getfield 177, 3) := by decide +kernel
theorem dX3_feed_22 : decode cX3_feed 22 = .ok (.iload_n 2, 1) := by decide +kernel
theorem dX3_feed_23 : decode cX3_feed 23 = .ok (.iadd, 1) := by decide +kernel
theorem dX3_feed_24 : decode cX3_feed 24 = .ok (.bipush 120, 2) := by decide +kernel
theorem dX3_feed_26 : decode cX3_feed 26 = .ok (.if_icmp .le 9, 3) := by decide +kernel
theorem dX3_feed_29 : decode cX3_feed 29 = .ok (.aload_n 0, 1) := by decide +kernel
theorem dX3_feed_30 : decode cX3_feed 30 = .ok (.iconst 1, 1) := by decide +kernel
theorem dX3_feed_31 : decode cX3_feed 31 = .ok (.invokevirtual 52, 3) := by decide +kernel
theorem dX3_feed_34 : decode cX3_feed 34 = .ok (.ireturn, 1) := by decide +kernel
theorem dX3_feed_35 : decode cX3_feed 35 = .ok (.iload_n 2, 1) := by decide +kernel
theorem dX3_feed_36 : decode cX3_feed 36 = .ok (.iconst 1, 1) := by decide +kernel
theorem dX3_feed_37 : decode cX3_feed 37 = .ok (.isub, 1) := by decide +kernel
theorem dX3_feed_38 : decode cX3_feed 38 = .ok (.istore_n 3, 1) := by decide +kernel
theorem dX3_feed_39 : decode cX3_feed 39 = .ok (.iload_n 3, 1) := by decide +kernel
theorem dX3_feed_40 : decode cX3_feed 40 = .ok (.ifCond .lt 22, 3) := by decide +kernel
theorem dX3_feed_43 : decode cX3_feed 43 = .ok (.aload_n 0, 1) := by decide +kernel
theorem dX3_feed_44 : decode cX3_feed 44 = .ok (.getfield 29, 3) := by decide +kernel
theorem dX3_feed_47 : decode cX3_feed 47 = .ok (.iload_n 1, 1) := by decide +kernel
theorem dX3_feed_48 : decode cX3_feed 48 = .ok (.bipush 8, 2) := by decide +kernel
theorem dX3_feed_50 : decode cX3_feed 50 = .ok (.iload_n 3, 1) := by decide +kernel
theorem dX3_feed_51 : decode cX3_feed 51 = .ok (.imul, 1) := by decide +kernel
theorem dX3_feed_52 : decode cX3_feed 52 = .ok (.iushr, 1) := by decide +kernel
theorem dX3_feed_53 : decode cX3_feed 53 = .ok (.invokevirtual 180, 3) := by decide +kernel
theorem dX3_feed_56 : decode cX3_feed 56 = .ok (.iinc 3 (-1), 3) := by decide +kernel
theorem dX3_feed_59 : decode cX3_feed 59 = .ok (.goto (-20), 3) := by decide +kernel
theorem dX3_feed_62 : decode cX3_feed 62 = .ok (.aload_n 0, 1) := by decide +kernel
theorem dX3_feed_63 : decode cX3_feed 63 = .ok (.getfield 29, 3) := by decide +kernel
theorem dX3_feed_66 : decode cX3_feed 66 = .ok (.getfield 177, 3) := by decide +kernel
theorem dX3_feed_69 : decode cX3_feed 69 = .ok (.ireturn, 1) := by decide +kernel
theorem dX3_wipe_0 : decode cX3_wipe 0 = .ok (.aload_n 0, 1) := by decide +kernel
theorem dX3_wipe_1 : decode cX3_wipe 1 = .ok (.getfield 29, 3) := by decide +kernel
theorem dX3_wipe_4 : decode cX3_wipe 4 = .ok (.getfield 177, 3) := by decide +kernel
theorem dX3_wipe_7 : decode cX3_wipe 7 = .ok (.istore_n 1, 1) := by decide +kernel
theorem dX3_wipe_8 : decode cX3_wipe 8 = .ok (.aload_n 0, 1) := by decide +kernel
theorem dX3_wipe_9 : decode cX3_wipe 9 = .ok (.getfield 29, 3) := by decide +kernel
theorem dX3_wipe_12 : decode cX3_wipe 12 = .ok (.iconst 0, 1) := by decide +kernel
theorem dX3_wipe_13 : decode cX3_wipe 13 = .ok (.putfield 177, 3) := by decide +kernel
theorem dX3_wipe_16 : decode cX3_wipe 16 = .ok (.iload_n 1, 1) := by decide +kernel
theorem dX3_wipe_17 : decode cX3_wipe 17 = .ok (.ireturn, 1) := by decide +kernel
theorem dX3_text_0 : decode cX3_text 0 = .ok (.aload_n 0, 1) := by decide +kernel
theorem dX3_text_1 : decode cX3_text 1 = .ok (.getfield 16, 3) := by decide +kernel
theorem dX3_text_4 : decode cX3_text 4 = .ok (.aload_n 0, 1) := by decide +kernel
theorem dX3_text_5 : decode cX3_text 5 = .ok (.getfield 12, 3) := by decide +kernel
theorem dX3_text_8 : decode cX3_text 8 = .ok (.invokevirtual 132, 3) := by decide +kernel
theorem dX3_text_11 : decode cX3_text 11 = .ok (.aload_n 0, 1) := by decide +kernel
theorem dX3_text_12 : decode cX3_text 12 = .ok (.getfield 29, 3) := by decide +kernel
theorem dX3_text_15 : decode cX3_text 15 = .ok (.aload_n 0, 1) := by decide +kernel
theorem dX3_text_16 : decode cX3_text 16 = .ok (.getfield 16, 3) := by decide +kernel
theorem dX3_text_19 : decode cX3_text 19 = .ok (.invokevirtual 183, 3) := by decide +kernel
theorem dX3_text_22 : decode cX3_text 22 = .ok (.istore_n 1, 1) := by decide +kernel
theorem dX3_text_23 : decode cX3_text 23 = .ok (.aload_n 0, 1) := by decide +kernel
theorem dX3_text_24 : decode cX3_text 24 = .ok (.getfield 29, 3) := by decide +kernel
theorem dX3_text_27 : decode cX3_text 27 = .ok (.iconst 0, 1) := by decide +kernel
theorem dX3_text_28 : decode cX3_text 28 = .ok (.putfield 177, 3) := by decide +kernel
theorem dX3_text_31 : decode cX3_text 31 = .ok (.iload_n 1, 1) := by decide +kernel
theorem dX3_text_32 : decode cX3_text 32 = .ok (.ifCond .lt 14, 3) := by decide +kernel
theorem dX3_text_35 : decode cX3_text 35 = .ok (.aload_n 0, 1) := by decide +kernel
theorem dX3_text_36 : decode cX3_text 36 = .ok (.getfield 12, 3) := by decide +kernel
theorem dX3_text_39 : decode cX3_text 39 = .ok (.aload_n 0, 1) := by decide +kernel
theorem dX3_text_40 : decode cX3_text 40 = .ok (.getfield 16, 3) := by decide +kernel
theorem dX3_text_43 : decode cX3_text 43 = .ok (.invokevirtual 132, 3) := by decide +kernel
theorem dX3_text_46 : decode cX3_text 46 = .ok (.iload_n 1, 1) := by decide +kernel
theorem dX3_text_47 : decode cX3_text 47 = .ok (.ireturn, 1) := by decide +kernel
theorem dX3_hold_0 : decode cX3_hold 0 = .ok (.iload_n 1, 1) := by decide +kernel
theorem dX3_hold_1 : decode cX3_hold 1 = .ok (.invokestatic 187, 3) := by decide +kernel
theorem dX3_hold_4 : decode cX3_hold 4 = .ok (.ifCond .eq 16, 3) := by decide +kernel
theorem dX3_hold_7 : decode cX3_hold 7 = .ok (.iload_n 2, 1) := by decide +kernel
theorem dX3_hold_8 : decode cX3_hold 8 = .ok (.iconst (-1), 1) := by decide +kernel
theorem dX3_hold_9 : decode cX3_hold 9 = .ok (.if_icmp .eq 17, 3) := by decide +kernel
theorem dX3_hold_12 : decode cX3_hold 12 = .ok (.aload_n 0, 1) := by decide +kernel
theorem dX3_hold_13 : decode cX3_hold 13 = .ok (.iload_n 2, 1) := by decide +kernel
theorem dX3_hold_14 : decode cX3_hold 14 = .ok (.invokevirtual 85, 3) := by decide +kernel
theorem dX3_hold_17 : decode cX3_hold 17 = .ok (.ifCond .ne 9, 3) := by decide +kernel
theorem dX3_hold_20 : decode cX3_hold 20 = .ok (.aload_n 0, 1) := by decide +kernel
theorem dX3_hold_21 : decode cX3_hold 21 = .ok (.iconst 0, 1) := by decide +kernel
theorem dX3_hold_22 : decode cX3_hold 22 = .ok (.invokevirtual 52, 3) := by decide +kernel
theorem dX3_hold_25 : decode cX3_hold 25 = .ok (.ireturn, 1) := by decide +kernel
theorem dX3_hold_26 : decode cX3_hold 26 = .ok (.aload_n 0, 1) := by decide +kernel
theorem dX3_hold_27 : decode cX3_hold 27 = .ok (.getfield 12, 3) := by decide +kernel
theorem dX3_hold_30 : decode cX3_hold 30 = .ok (.getfield 190, 3) := by decide +kernel
theorem dX3_hold_33 : decode cX3_hold 33 = .ok (.iload_n 1, 1) := by decide +kernel
theorem dX3_hold_34 : decode cX3_hold 34 = .ok (.iload_n 2, 1) := by decide +kernel
theorem dX3_hold_35 : decode cX3_hold 35 = .ok (.iastore, 1) := by decide +kernel
theorem dX3_hold_36 : decode cX3_hold 36 = .ok (.iconst 1, 1) := by decide +kernel
theorem dX3_hold_37 : decode cX3_hold 37 = .ok (.ireturn, 1) := by decide +kernel
theorem dX3_as_0 : decode cX3_as 0 = .ok (.iload_n 1, 1) := by decide +kernel
theorem dX3_as_1 : decode cX3_as 1 = .ok (.invokestatic 187, 3) := by decide +kernel
theorem dX3_as_4 : decode cX3_as 4 = .ok (.ifCond .eq 10, 3) := by decide +kernel
theorem dX3_as_7 : decode cX3_as 7 = .ok (.iload_n 2, 1) := by decide +kernel
theorem dX3_as_8 : decode cX3_as 8 = .ok (.invokestatic 75, 3) := by decide +kernel
theorem dX3_as_11 : decode cX3_as 11 = .ok (.ifCond .ne 9, 3) := by decide +kernel
theorem dX3_as_14 : decode cX3_as 14 = .ok (.aload_n 0, 1) := by decide +kernel
theorem dX3_as_15 : decode cX3_as 15 = .ok (.iconst 0, 1) := by decide +kernel
theorem dX3_as_16 : decode cX3_as 16 = .ok (.invokevirtual 52, 3) := by decide +kernel
theorem dX3_as_19 : decode cX3_as 19 = .ok (.ireturn, 1) := by decide +kernel
theorem dX3_as_20 : decode cX3_as 20 = .ok (.aload_n 0, 1) := by decide +kernel
theorem dX3_as_21 : decode cX3_as 21 = .ok (.getfield 12, 3) := by decide +kernel
theorem dX3_as_24 : decode cX3_as 24 = .ok (.getfield 190, 3) := by decide +kernel
theorem dX3_as_27 : decode cX3_as 27 = .ok (.iload_n 1, 1) := by decide +kernel
theorem dX3_as_28 : decode cX3_as 28 = .ok (.iaload, 1) := by decide +kernel
theorem dX3_as_29 : decode cX3_as 29 = .ok (.istore_n 3, 1) := by decide +kernel
theorem dX3_as_30 : decode cX3_as 30 = .ok (.aload_n 0, 1) := by decide +kernel
theorem dX3_as_31 : decode cX3_as 31 = .ok (.iload_n 3, 1) := by decide +kernel
theorem dX3_as_32 : decode cX3_as 32 = .ok (.invokevirtual 85, 3) := by decide +kernel
theorem dX3_as_35 : decode cX3_as 35 = .ok (.ifCond .ne 9, 3) := by decide +kernel
theorem dX3_as_38 : decode cX3_as 38 = .ok (.aload_n 0, 1) := by decide +kernel
theorem dX3_as_39 : decode cX3_as 39 = .ok (.iconst 5, 1) := by decide +kernel
theorem dX3_as_40 : decode cX3_as 40 = .ok (.invokevirtual 52, 3) := by decide +kernel
theorem dX3_as_43 : decode cX3_as 43 = .ok (.ireturn, 1) := by decide +kernel
theorem dX3_as_44 : decode cX3_as 44 = .ok (.aload_n 0, 1) := by decide +kernel
theorem dX3_as_45 : decode cX3_as 45 = .ok (.getfield 12, 3) := by decide +kernel
theorem dX3_as_48 : decode cX3_as 48 = .ok (.getfield 91, 3) := by decide +kernel
theorem dX3_as_51 : decode cX3_as 51 = .ok (.iconst 0, 1) := by decide +kernel
theorem dX3_as_52 : decode cX3_as 52 = .ok (.aaload, 1) := by decide +kernel
theorem dX3_as_53 : decode cX3_as 53 = .ok (.iload_n 3, 1) := by decide +kernel
theorem dX3_as_54 : decode cX3_as 54 = .ok (.iaload, 1) := by decide +kernel
theorem dX3_as_55 : decode cX3_as 55 = .ok (.iload_n 2, 1) := by decide +kernel
theorem dX3_as_56 : decode cX3_as 56 = .ok (.invokestatic 193, 3) := by decide +kernel
theorem dX3_as_59 : decode cX3_as 59 = .ok (.ifCond .ne 9, 3) := by decide +kernel
theorem dX3_as_62 : decode cX3_as 62 = .ok (.aload_n 0, 1) := by decide +kernel
theorem dX3_as_63 : decode cX3_as 63 = .ok (.iconst 2, 1) := by decide +kernel
theorem dX3_as_64 : decode cX3_as 64 = .ok (.invokevirtual 52, 3) := by decide +kernel
theorem dX3_as_67 : decode cX3_as 67 = .ok (.ireturn, 1) := by decide +kernel
theorem dX3_as_68 : decode cX3_as 68 = .ok (.iload_n 3, 1) := by decide +kernel
theorem dX3_as_69 : decode cX3_as 69 = .ok (.ireturn, 1) := by decide +kernel
theorem dX3_sheet_0 : decode cX3_sheet 0 = .ok (.iload_n 1, 1) := by decide +kernel
theorem dX3_sheet_1 : decode cX3_sheet 1 = .ok (.invokestatic 197, 3) := by decide +kernel
theorem dX3_sheet_4 : decode cX3_sheet 4 = .ok (.ifCond .eq 25, 3) := by decide +kernel
theorem dX3_sheet_7 : decode cX3_sheet 7 = .ok (.iload_n 2, 1) := by decide +kernel
theorem dX3_sheet_8 : decode cX3_sheet 8 = .ok (.ifCond .eq 27, 3) := by decide +kernel
theorem dX3_sheet_11 : decode cX3_sheet 11 = .ok (.iload_n 2, 1) := by decide +kernel
theorem dX3_sheet_12 : decode cX3_sheet 12 = .ok (.bipush 8, 2) := by decide +kernel
theorem dX3_sheet_14 : decode cX3_sheet 14 = .ok (.if_icmp .eq 21, 3) := by decide +kernel
theorem dX3_sheet_17 : decode cX3_sheet 17 = .ok (.iload_n 2, 1) := by decide +kernel
theorem dX3_sheet_18 : decode cX3_sheet 18 = .ok (.bipush 16, 2) := by decide +kernel
theorem dX3_sheet_20 : decode cX3_sheet 20 = .ok (.if_icmp .eq 15, 3) := by decide +kernel
theorem dX3_sheet_23 : decode cX3_sheet 23 = .ok (.iload_n 2, 1) := by decide +kernel
theorem dX3_sheet_24 : decode cX3_sheet 24 = .ok (.bipush 32, 2) := by decide +kernel
theorem dX3_sheet_26 : decode cX3_sheet 26 = .ok (.if_icmp .eq 9, 3) := by decide +kernel
theorem dX3_sheet_29 : decode cX3_sheet 29 = .ok (.aload_n 0, 1) := by decide +kernel
theorem dX3_sheet_30 : decode cX3_sheet 30 = .ok (.iconst 0, 1) := by decide +kernel
theorem dX3_sheet_31 : decode cX3_sheet 31 = .ok (.invokevirtual 52, 3) := by decide +kernel
theorem dX3_sheet_34 : decode cX3_sheet 34 = .ok (.ireturn, 1) := by decide +kernel
theorem dX3_sheet_35 : decode cX3_sheet 35 = .ok (.iload_n 3, 1) := by decide +kernel
theorem dX3_sheet_36 : decode cX3_sheet 36 = .ok (.ifCond .ge 10, 3) := by decide +kernel
theorem dX3_sheet_39 : decode cX3_sheet 39 = .ok (.aload_n 0, 1) := by decide +kernel
theorem dX3_sheet_40 : decode cX3_sheet 40 = .ok (.bipush 6, 2) := by decide +kernel
theorem dX3_sheet_42 : decode cX3_sheet 42 = .ok (.invokevirtual 52, 3) := by decide +kernel
theorem dX3_sheet_45 : decode cX3_sheet 45 = .ok (.ireturn, 1) := by decide +kernel
theorem dX3_sheet_46 : decode cX3_sheet 46 = .ok (.iload_n 3, 1) := by decide +kernel
theorem dX3_sheet_47 : decode cX3_sheet 47 = .ok (.bipush 40, 2) := by decide +kernel
theorem dX3_sheet_49 : decode cX3_sheet 49 = .ok (.if_icmp .le 9, 3) := by decide +kernel
theorem dX3_sheet_52 : decode cX3_sheet 52 = .ok (.aload_n 0, 1) := by decide +kernel
theorem dX3_sheet_53 : decode cX3_sheet 53 = .ok (.iconst 0, 1) := by decide +kernel
theorem dX3_sheet_54 : decode cX3_sheet 54 = .ok (.invokevirtual 52, 3) := by decide +kernel
theorem dX3_sheet_57 : decode cX3_sheet 57 = .ok (.ireturn, 1) := by decide +kernel
theorem dX3_sheet_58 : decode cX3_sheet 58 = .ok (.aload_n 0, 1) := by decide +kernel
theorem dX3_sheet_59 : decode cX3_sheet 59 = .ok (.getfield 35, 3) := by decide +kernel
theorem dX3_sheet_62 : decode cX3_sheet 62 = .ok (.iload_n 1, 1) := by decide +kernel
theorem dX3_sheet_63 : decode cX3_sheet 63 = .ok (.aaload, 1) := by decide +kernel
theorem dX3_sheet_64 : decode cX3_sheet 64 = .ok (.iload_n 2, 1) := by decide +kernel
theorem dX3_sheet_65 : decode cX3_sheet 65 = .ok (.iload_n 2, 1) := by decide +kernel
theorem dX3_sheet_66 : decode cX3_sheet 66 = .ok (.ifCond .ne 7, 3) := by decide +kernel
theorem dX3_sheet_69 : decode cX3_sheet 69 = .ok (.iconst 0, 1) := by decide +kernel
theorem dX3_sheet_70 : decode cX3_sheet 70 = .ok (.goto 4, 3) := by decide +kernel
theorem dX3_sheet_73 : decode cX3_sheet 73 = .ok (.iload_n 3, 1) := by decide +kernel
theorem dX3_sheet_74 : decode cX3_sheet 74 = .ok (.invokevirtual 200, 3) := by decide +kernel
theorem dX3_sheet_77 : decode cX3_sheet 77 = .ok (.aload_n 0, 1) := by decide +kernel
theorem dX3_sheet_78 : decode cX3_sheet 78 = .ok (.getfield 35, 3) := by decide +kernel
theorem dX3_sheet_81 : decode cX3_sheet 81 = .ok (.iload_n 1, 1) := by decide +kernel
theorem dX3_sheet_82 : decode cX3_sheet 82 = .ok (.aaload, 1) := by decide +kernel
theorem dX3_sheet_83 : decode cX3_sheet 83 = .ok (.getfield 203, 3) := by decide +kernel
theorem dX3_sheet_86 : decode cX3_sheet 86 = .ok (.ireturn, 1) := by decide +kernel
theorem dX3_write_0 : decode cX3_write 0 = .ok (.aload_n 0, 1) := by decide +kernel
theorem dX3_write_1 : decode cX3_write 1 = .ok (.iload_n 1, 1) := by decide +kernel
theorem dX3_write_2 : decode cX3_write 2 = .ok (.invokevirtual 153, 3) := by decide +kernel
theorem dX3_write_5 : decode cX3_write 5 = .ok (.istore 4, 2) := by decide +kernel
theorem dX3_write_7 : decode cX3_write 7 = .ok (.iload 4, 2) := by decide +kernel
theorem dX3_write_9 : decode cX3_write 9 = .ok (.iconst (-1), 1) := by decide +kernel
theorem dX3_write_10 : decode cX3_write 10 = .ok (.if_icmp .eq 10, 3) := by decide +kernel
theorem dX3_write_13 : decode cX3_write 13 = .ok (.aload_n 0, 1) := by decide +kernel
theorem dX3_write_14 : decode cX3_write 14 = .ok (.iload 4, 2) := by decide +kernel
theorem dX3_write_16 : decode cX3_write 16 = .ok (.invokevirtual 52, 3) := by decide +kernel
theorem dX3_write_19 : decode cX3_write 19 = .ok (.ireturn, 1) := by decide +kernel
theorem dX3_write_20 : decode cX3_write 20 = .ok (.iload_n 2, 1) := by decide +kernel
theorem dX3_write_21 : decode cX3_write 21 = .ok (.iconst 0, 1) := by decide +kernel
theorem dX3_write_22 : decode cX3_write 22 = .ok (.aload_n 0, 1) := by decide +kernel
theorem dX3_write_23 : decode cX3_write 23 = .ok (.getfield 35, 3) := by decide +kernel
theorem dX3_write_26 : decode cX3_write 26 = .ok (.iload_n 1, 1) := by decide +kernel
theorem dX3_write_27 : decode cX3_write 27 = .ok (.aaload, 1) := by decide +kernel
theorem dX3_write_28 : decode cX3_write 28 = .ok (.getfield 203, 3) := by decide +kernel
theorem dX3_write_31 : decode cX3_write 31 = .ok (.iconst 1, 1) := by decide +kernel
theorem dX3_write_32 : decode cX3_write 32 = .ok (.isub, 1) := by decide +kernel
theorem dX3_write_33 : decode cX3_write 33 = .ok (.invokestatic 48, 3) := by decide +kernel
theorem dX3_write_36 : decode cX3_write 36 = .ok (.ifCond .ne 9, 3) := by decide +kernel
theorem dX3_write_39 : decode cX3_write 39 = .ok (.aload_n 0, 1) := by decide +kernel
theorem dX3_write_40 : decode cX3_write 40 = .ok (.iconst 0, 1) := by decide +kernel
theorem dX3_write_41 : decode cX3_write 41 = .ok (.invokevirtual 52, 3) := by decide +kernel
theorem dX3_write_44 : decode cX3_write 44 = .ok (.ireturn, 1) := by decide +kernel
theorem dX3_write_45 : decode cX3_write 45 = .ok (.aload_n 0, 1) := by decide +kernel
theorem dX3_write_46 : decode cX3_write 46 = .ok (.getfield 35, 3) := by decide +kernel
theorem dX3_write_49 : decode cX3_write 49 = .ok (.iload_n 1, 1) := by decide +kernel
theorem dX3_write_50 : decode cX3_write 50 = .ok (.aaload, 1) := by decide +kernel
theorem dX3_write_51 : decode cX3_write 51 = .ok (.iload_n 2, 1) := by decide +kernel
theorem dX3_write_52 : decode cX3_write 52 = .ok (.iload_n 3, 1) := by decide +kernel
theorem dX3_write_53 : decode cX3_write 53 = .ok (.invokevirtual 204, 3) := by decide +kernel
theorem dX3_write_56 : decode cX3_write 56 = .ok (.iconst 1, 1) := by decide +kernel
theorem dX3_write_57 : decode cX3_write 57 = .ok (.ireturn, 1) := by decide +kernel
theorem dX3_copy_0 : decode cX3_copy 0 = .ok (.iload_n 1, 1) := by decide +kernel
theorem dX3_copy_1 : decode cX3_copy 1 = .ok (.invokestatic 197, 3) := by decide +kernel
theorem dX3_copy_4 : decode cX3_copy 4 = .ok (.ifCond .eq 10, 3) := by decide +kernel
theorem dX3_copy_7 : decode cX3_copy 7 = .ok (.iload_n 3, 1) := by decide +kernel
theorem dX3_copy_8 : decode cX3_copy 8 = .ok (.invokestatic 197, 3) := by decide +kernel
theorem dX3_copy_11 : decode cX3_copy 11 = .ok (.ifCond .ne 9, 3) := by decide +kernel
theorem dX3_copy_14 : decode cX3_copy 14 = .ok (.aload_n 0, 1) := by decide +kernel
theorem dX3_copy_15 : decode cX3_copy 15 = .ok (.iconst 0, 1) := by decide +kernel
theorem dX3_copy_16 : decode cX3_copy 16 = .ok (.invokevirtual 52, 3) := by decide +kernel
theorem dX3_copy_19 : decode cX3_copy 19 = .ok (.ireturn, 1) := by decide +kernel
theorem dX3_copy_20 : decode cX3_copy 20 = .ok (.aload_n 0, 1) := by decide +kernel
theorem dX3_copy_21 : decode cX3_copy 21 = .ok (.getfield 35, 3) := by decide +kernel
theorem dX3_copy_24 : decode cX3_copy 24 = .ok (.iload_n 1, 1) := by decide +kernel
theorem dX3_copy_25 : decode cX3_copy 25 = .ok (.aaload, 1) := by decide +kernel
theorem dX3_copy_26 : decode cX3_copy 26 = .ok (.invokevirtual 206, 3) := by decide +kernel
theorem dX3_copy_29 : decode cX3_copy 29 = .ok (.ifCond .ne 15, 3) := by decide +kernel
theorem dX3_copy_32 : decode cX3_copy 32 = .ok (.aload_n 0, 1) := by decide +kernel
theorem dX3_copy_33 : decode cX3_copy 33 = .ok (.getfield 35, 3) := by decide +kernel
theorem dX3_copy_36 : decode cX3_copy 36 = .ok (.iload_n 3, 1) := by decide +kernel
theorem dX3_copy_37 : decode cX3_copy 37 = .ok (.aaload, 1) := by decide +kernel
theorem dX3_copy_38 : decode cX3_copy 38 = .ok (.invokevirtual 206, 3) := by decide +kernel
theorem dX3_copy_41 : decode cX3_copy 41 = .ok (.ifCond .eq 9, 3) := by decide +kernel
theorem dX3_copy_44 : decode cX3_copy 44 = .ok (.aload_n 0, 1) := by decide +kernel
theorem dX3_copy_45 : decode cX3_copy 45 = .ok (.iconst 5, 1) := by decide +kernel
theorem dX3_copy_46 : decode cX3_copy 46 = .ok (.invokevirtual 52, 3) := by decide +kernel
theorem dX3_copy_49 : decode cX3_copy 49 = .ok (.ireturn, 1) := by decide +kernel
theorem dX3_copy_50 : decode cX3_copy 50 = .ok (.aload_n 0, 1) := by decide +kernel
theorem dX3_copy_51 : decode cX3_copy 51 = .ok (.getfield 35, 3) := by decide +kernel
theorem dX3_copy_54 : decode cX3_copy 54 = .ok (.iload_n 1, 1) := by decide +kernel
theorem dX3_copy_55 : decode cX3_copy 55 = .ok (.aaload, 1) := by decide +kernel
theorem dX3_copy_56 : decode cX3_copy 56 = .ok (.getfield 210, 3) := by decide +kernel
theorem dX3_copy_59 : decode cX3_copy 59 = .ok (.aload_n 0, 1) := by decide +kernel
theorem dX3_copy_60 : decode cX3_copy 60 = .ok (.getfield 35, 3) := by decide +kernel
theorem dX3_copy_63 : decode cX3_copy 63 = .ok (.iload_n 3, 1) := by decide +kernel
theorem dX3_copy_64 : decode cX3_copy 64 = .ok (.aaload, 1) := by decide +kernel
theorem dX3_copy_65 : decode cX3_copy 65 = .ok (.getfield 210, 3) := by decide +kernel
theorem dX3_copy_68 : decode cX3_copy 68 = .ok (.if_icmp .eq 9, 3) := by decide +kernel
theorem dX3_copy_71 : decode cX3_copy 71 = .ok (.aload_n 0, 1) := by decide +kernel
theorem dX3_copy_72 : decode cX3_copy 72 = .ok (.iconst 2, 1) := by decide +kernel
theorem dX3_copy_73 : decode cX3_copy 73 = .ok (.invokevirtual 52, 3) := by decide +kernel
theorem dX3_copy_76 : decode cX3_copy 76 = .ok (.ireturn, 1) := by decide +kernel
theorem dX3_copy_77 : decode cX3_copy 77 = .ok (.aload_n 0, 1) := by decide +kernel
theorem dX3_copy_78 : decode cX3_copy 78 = .ok (.getfield 35, 3) := by decide +kernel
theorem dX3_copy_81 : decode cX3_copy 81 = .ok (.iload_n 1, 1) := by decide +kernel
theorem dX3_copy_82 : decode cX3_copy 82 = .ok (.aaload, 1) := by decide +kernel
theorem dX3_copy_83 : decode cX3_copy 83 = .ok (.iload_n 2, 1) := by decide +kernel
theorem dX3_copy_84 : decode cX3_copy 84 = .ok (.iload 5, 2) := by decide +kernel
theorem dX3_copy_86 : decode cX3_copy 86 = .ok (.invokevirtual 213, 3) := by decide +kernel
theorem dX3_copy_89 : decode cX3_copy 89 = .ok (.ifCond .eq 19, 3) := by decide +kernel
theorem dX3_copy_92 : decode cX3_copy 92 = .ok (.aload_n 0, 1) := by decide +kernel
theorem dX3_copy_93 : decode cX3_copy 93 = .ok (.getfield 35, 3) := by decide +kernel
theorem dX3_copy_96 : decode cX3_copy 96 = .ok (.iload_n 3, 1) := by decide +kernel
theorem dX3_copy_97 : decode cX3_copy 97 = .ok (.aaload, 1) := by decide +kernel
theorem dX3_copy_98 : decode cX3_copy 98 = .ok (.iload 4, 2) := by decide +kernel
theorem dX3_copy_100 : decode cX3_copy 100 = .ok (.iload 5, 2) := by decide +kernel
theorem dX3_copy_102 : decode cX3_copy 102 = .ok (.invokevirtual 213, 3) := by decide +kernel
theorem dX3_copy_105 : decode cX3_copy 105 = .ok (.ifCond .ne 9, 3) := by decide +kernel
theorem dX3_copy_108 : decode cX3_copy 108 = .ok (.aload_n 0, 1) := by decide +kernel
theorem dX3_copy_109 : decode cX3_copy 109 = .ok (.iconst 0, 1) := by decide +kernel
theorem dX3_copy_110 : decode cX3_copy 110 = .ok (.invokevirtual 52, 3) := by decide +kernel
theorem dX3_copy_113 : decode cX3_copy 113 = .ok (.ireturn, 1) := by decide +kernel
theorem dX3_copy_114 : decode cX3_copy 114 = .ok (.aload_n 0, 1) := by decide +kernel
theorem dX3_copy_115 : decode cX3_copy 115 = .ok (.getfield 35, 3) := by decide +kernel
theorem dX3_copy_118 : decode cX3_copy 118 = .ok (.iload_n 1, 1) := by decide +kernel
theorem dX3_copy_119 : decode cX3_copy 119 = .ok (.aaload, 1) := by decide +kernel
theorem dX3_copy_120 : decode cX3_copy 120 = .ok (.getfield 216, 3) := by decide +kernel
theorem dX3_copy_123 : decode cX3_copy 123 = .ok (.iload_n 2, 1) := by decide +kernel
theorem dX3_copy_124 : decode cX3_copy 124 = .ok (.aload_n 0, 1) := by decide +kernel
theorem dX3_copy_125 : decode cX3_copy 125 = .ok (.getfield 35, 3) := by decide +kernel
theorem dX3_copy_128 : decode cX3_copy 128 = .ok (.iload_n 3, 1) := by decide +kernel
theorem dX3_copy_129 : decode cX3_copy 129 = .ok (.aaload, 1) := by decide +kernel
theorem dX3_copy_130 : decode cX3_copy 130 = .ok (.getfield 216, 3) := by decide +kernel
theorem dX3_copy_133 : decode cX3_copy 133 = .ok (.iload 4, 2) := by decide +kernel
theorem dX3_copy_135 : decode cX3_copy 135 = .ok (.iload 5, 2) := by decide +kernel
theorem dX3_copy_137 : decode cX3_copy 137 = .ok (.invokestatic 219, 3) := by decide +kernel
theorem dX3_copy_140 : decode cX3_copy 140 = .ok (.iload 5, 2) := by decide +kernel
theorem dX3_copy_142 : decode cX3_copy 142 = .ok (.ireturn, 1) := by decide +kernel
theorem dX3_load_0 : decode cX3_load 0 = .ok (.aload_n 0, 1) := by decide +kernel
theorem dX3_load_1 : decode cX3_load 1 = .ok (.iload_n 1, 1) := by decide +kernel
theorem dX3_load_2 : decode cX3_load 2 = .ok (.invokevirtual 153, 3) := by decide +kernel
theorem dX3_load_5 : decode cX3_load 5 = .ok (.istore_n 2, 1) := by decide +kernel
theorem dX3_load_6 : decode cX3_load 6 = .ok (.iload_n 2, 1) := by decide +kernel
theorem dX3_load_7 : decode cX3_load 7 = .ok (.iconst (-1), 1) := by decide +kernel
theorem dX3_load_8 : decode cX3_load 8 = .ok (.if_icmp .eq 9, 3) := by decide +kernel
theorem dX3_load_11 : decode cX3_load 11 = .ok (.aload_n 0, 1) := by decide +kernel
theorem dX3_load_12 : decode cX3_load 12 = .ok (.iload_n 2, 1) := by decide +kernel
theorem dX3_load_13 : decode cX3_load 13 = .ok (.invokevirtual 52, 3) := by decide +kernel
theorem dX3_load_16 : decode cX3_load 16 = .ok (.ireturn, 1) := by decide +kernel
theorem dX3_load_17 : decode cX3_load 17 = .ok (.aload_n 0, 1) := by decide +kernel
theorem dX3_load_18 : decode cX3_load 18 = .ok (.getfield 35, 3) := by decide +kernel
theorem dX3_load_21 : decode cX3_load 21 = .ok (.iload_n 1, 1) := by decide +kernel
theorem dX3_load_22 : decode cX3_load 22 = .ok (.aaload, 1) := by decide +kernel
theorem dX3_load_23 : decode cX3_load 23 = .ok (.getfield 203, 3) := by decide +kernel
theorem dX3_load_26 : decode cX3_load 26 = .ok (.bipush 9, 2) := by decide +kernel
theorem dX3_load_28 : decode cX3_load 28 = .ok (.invokestatic 225, 3) := by decide +kernel
theorem dX3_load_31 : decode cX3_load 31 = .ok (.istore_n 3, 1) := by decide +kernel
theorem dX3_load_32 : decode cX3_load 32 = .ok (.iconst 0, 1) := by decide +kernel
theorem dX3_load_33 : decode cX3_load 33 = .ok (.istore 4, 2) := by decide +kernel
theorem dX3_load_35 : decode cX3_load 35 = .ok (.iload 4, 2) := by decide +kernel
theorem dX3_load_37 : decode cX3_load 37 = .ok (.iload_n 3, 1) := by decide +kernel
theorem dX3_load_38 : decode cX3_load 38 = .ok (.if_icmp .ge 50, 3) := by decide +kernel
theorem dX3_load_41 : decode cX3_load 41 = .ok (.aload_n 0, 1) := by decide +kernel
theorem dX3_load_42 : decode cX3_load 42 = .ok (.getfield 35, 3) := by decide +kernel
theorem dX3_load_45 : decode cX3_load 45 = .ok (.iload_n 1, 1) := by decide +kernel
theorem dX3_load_46 : decode cX3_load 46 = .ok (.aaload, 1) := by decide +kernel
theorem dX3_load_47 : decode cX3_load 47 = .ok (.getfield 216, 3) := by decide +kernel
theorem dX3_load_50 : decode cX3_load 50 = .ok (.iload 4, 2) := by decide +kernel
theorem dX3_load_52 : decode cX3_load 52 = .ok (.iaload, 1) := by decide +kernel
theorem dX3_load_53 : decode cX3_load 53 = .ok (.istore 5, 2) := by decide +kernel
theorem dX3_load_55 : decode cX3_load 55 = .ok (.iload 5, 2) := by decide +kernel
theorem dX3_load_57 : decode cX3_load 57 = .ok (.iconst 0, 1) := by decide +kernel
theorem dX3_load_58 : decode cX3_load 58 = .ok (.sipush 9999, 3) := by decide +kernel
theorem dX3_load_61 : decode cX3_load 61 = .ok (.invokestatic 48, 3) := by decide +kernel
theorem dX3_load_64 : decode cX3_load 64 = .ok (.ifCond .ne 6, 3) := by decide +kernel
theorem dX3_load_67 : decode cX3_load 67 = .ok (.iload 4, 2) := by decide +kernel
theorem dX3_load_69 : decode cX3_load 69 = .ok (.ireturn, 1) := by decide +kernel
theorem dX3_load_70 : decode cX3_load 70 = .ok (.aload_n 0, 1) := by decide +kernel
theorem dX3_load_71 : decode cX3_load 71 = .ok (.getfield 12, 3) := by decide +kernel
theorem dX3_load_74 : decode cX3_load 74 = .ok (.getfield 56, 3) := by decide +kernel
theorem dX3_load_77 : decode cX3_load 77 = .ok (.iload 4, 2) := by decide +kernel
theorem dX3_load_79 : decode cX3_load 79 = .ok (.iload 5, 2) := by decide +kernel
theorem dX3_load_81 : decode cX3_load 81 = .ok (.iastore, 1) := by decide +kernel
theorem dX3_load_82 : decode cX3_load 82 = .ok (.iinc 4 1, 3) := by decide +kernel
theorem dX3_load_85 : decode cX3_load 85 = .ok (.goto (-50), 3) := by decide +kernel
theorem dX3_load_88 : decode cX3_load 88 = .ok (.iload_n 3, 1) := by decide +kernel
theorem dX3_load_89 : decode cX3_load 89 = .ok (.ireturn, 1) := by decide +kernel
theorem dX3_judge_0 : decode cX3_judge 0 = .ok (.aload_n 0, 1) := by decide +kernel
theorem dX3_judge_1 : decode cX3_judge 1 = .ok (.iload_n 1, 1) := by decide +kernel
theorem dX3_judge_2 : decode cX3_judge 2 = .ok (.invokevirtual 153, 3) := by decide +kernel
theorem dX3_judge_5 : decode cX3_judge 5 = .ok (.istore_n 2, 1) := by decide +kernel
theorem dX3_judge_6 : decode cX3_judge 6 = .ok (.iload_n 2, 1) := by decide +kernel
theorem dX3_judge_7 : decode cX3_judge 7 = .ok (.iconst (-1), 1) := by decide +kernel
theorem dX3_judge_8 : decode cX3_judge 8 = .ok (.if_icmp .eq 9, 3) := by decide +kernel
theorem dX3_judge_11 : decode cX3_judge 11 = .ok (.aload_n 0, 1) := by decide +kernel
theorem dX3_judge_12 : decode cX3_judge 12 = .ok (.iload_n 2, 1) := by decide +kernel
theorem dX3_judge_13 : decode cX3_judge 13 = .ok (.invokevirtual 52, 3) := by decide +kernel
theorem dX3_judge_16 : decode cX3_judge 16 = .ok (.ireturn, 1) := by decide +kernel
theorem dX3_judge_17 : decode cX3_judge 17 = .ok (.iconst 0, 1) := by decide +kernel
theorem dX3_judge_18 : decode cX3_judge 18 = .ok (.istore_n 3, 1) := by decide +kernel
theorem dX3_judge_19 : decode cX3_judge 19 = .ok (.iload_n 3, 1) := by decide +kernel
theorem dX3_judge_20 : decode cX3_judge 20 = .ok (.aload_n 0, 1) := by decide +kernel
theorem dX3_judge_21 : decode cX3_judge 21 = .ok (.getfield 35, 3) := by decide +kernel
theorem dX3_judge_24 : decode cX3_judge 24 = .ok (.iload_n 1, 1) := by decide +kernel
theorem dX3_judge_25 : decode cX3_judge 25 = .ok (.aaload, 1) := by decide +kernel
theorem dX3_judge_26 : decode cX3_judge 26 = .ok (.getfield 203, 3) := by decide +kernel
theorem dX3_judge_29 : decode cX3_judge 29 = .ok (.if_icmp .ge 42, 3) := by decide +kernel
theorem dX3_judge_32 : decode cX3_judge 32 = .ok (.iload_n 3, 1) := by decide +kernel
theorem dX3_judge_33 : decode cX3_judge 33 = .ok (.bipush 8, 2) := by decide +kernel
theorem dX3_judge_35 : decode cX3_judge 35 = .ok (.if_icmp .ge 26, 3) := by decide +kernel
theorem dX3_judge_38 : decode cX3_judge 38 = .ok (.aload_n 0, 1) := by decide +kernel
theorem dX3_judge_39 : decode cX3_judge 39 = .ok (.getfield 35, 3) := by decide +kernel
theorem dX3_judge_42 : decode cX3_judge 42 = .ok (.iload_n 1, 1) := by decide +kernel
theorem dX3_judge_43 : decode cX3_judge 43 = .ok (.aaload, 1) := by decide +kernel
theorem dX3_judge_44 : decode cX3_judge 44 = .ok (.getfield 216, 3) := by decide +kernel
theorem dX3_judge_47 : decode cX3_judge 47 = .ok (.iload_n 3, 1) := by decide +kernel
theorem dX3_judge_48 : decode cX3_judge 48 = .ok (.iaload, 1) := by decide +kernel
theorem dX3_judge_49 : decode cX3_judge 49 = .ok (.aload_n 0, 1) := by decide +kernel
theorem dX3_judge_50 : decode cX3_judge 50 = .ok (.getfield 12, 3) := by decide +kernel
theorem dX3_judge_53 : decode cX3_judge 53 = .ok (.getfield 68, 3) := by decide +kernel
theorem dX3_judge_56 : decode cX3_judge 56 = .ok (.iload_n 3, 1) := by decide +kernel
theorem dX3_judge_57 : decode cX3_judge 57 = .ok (.iaload, 1) := by decide +kernel
theorem dX3_judge_58 : decode cX3_judge 58 = .ok (.if_icmp .eq 7, 3) := by decide +kernel
theorem dX3_judge_61 : decode cX3_judge 61 = .ok (.iconst 1, 1) := by decide +kernel
theorem dX3_judge_62 : decode cX3_judge 62 = .ok (.iload_n 3, 1) := by decide +kernel
theorem dX3_judge_63 : decode cX3_judge 63 = .ok (.iadd, 1) := by decide +kernel
theorem dX3_judge_64 : decode cX3_judge 64 = .ok (.ireturn, 1) := by decide +kernel
theorem dX3_judge_65 : decode cX3_judge 65 = .ok (.iinc 3 1, 3) := by decide +kernel
theorem dX3_judge_68 : decode cX3_judge 68 = .ok (.goto (-49), 3) := by decide +kernel
theorem dX3_judge_71 : decode cX3_judge 71 = .ok (.iconst 0, 1) := by decide +kernel
theorem dX3_judge_72 : decode cX3_judge 72 = .ok (.ireturn, 1) := by decide +kernel
theorem dX3_image_0 : decode cX3_image 0 = .ok (.aload_n 0, 1) := by decide +kernel
theorem dX3_image_1 : decode cX3_image 1 = .ok (.getfield 19, 3) := by decide +kernel
theorem dX3_image_4 : decode cX3_image 4 = .ok (.aload_n 0, 1) := by decide +kernel
theorem dX3_image_5 : decode cX3_image 5 = .ok (.getfield 12, 3) := by decide +kernel
theorem dX3_image_8 : decode cX3_image 8 = .ok (.invokevirtual 132, 3) := by decide +kernel
theorem dX3_image_11 : decode cX3_image 11 = .ok (.aload_n 0, 1) := by decide +kernel
theorem dX3_image_12 : decode cX3_image 12 = .ok (.iconst 1, 1) := by decide +kernel
theorem dX3_image_13 : decode cX3_image 13 = .ok (.putfield 22, 3) := by decide +kernel
theorem dX3_image_16 : decode cX3_image 16 = .ok (.iconst 1, 1) := by decide +kernel
theorem dX3_image_17 : decode cX3_image 17 = .ok (.ireturn, 1) := by decide +kernel
theorem dX3_undo_0 : decode cX3_undo 0 = .ok (.aload_n 0, 1) := by decide +kernel
theorem dX3_undo_1 : decode cX3_undo 1 = .ok (.getfield 22, 3) := by decide +kernel
theorem dX3_undo_4 : decode cX3_undo 4 = .ok (.ifCond .ne 9, 3) := by decide +kernel
theorem dX3_undo_7 : decode cX3_undo 7 = .ok (.aload_n 0, 1) := by decide +kernel
theorem dX3_undo_8 : decode cX3_undo 8 = .ok (.iconst 3, 1) := by decide +kernel
theorem dX3_undo_9 : decode cX3_undo 9 = .ok (.invokevirtual 52, 3) := by decide +kernel
theorem dX3_undo_12 : decode cX3_undo 12 = .ok (.ireturn, 1) := by decide +kernel
theorem dX3_undo_13 : decode cX3_undo 13 = .ok (.aload_n 0, 1) := by decide +kernel
theorem dX3_undo_14 : decode cX3_undo 14 = .ok (.getfield 12, 3) := by decide +kernel
theorem dX3_undo_17 : decode cX3_undo 17 = .ok (.aload_n 0, 1) := by decide +kernel
theorem dX3_undo_18 : decode cX3_undo 18 = .ok (.getfield 19, 3) := by decide +kernel
theorem dX3_undo_21 : decode cX3_undo 21 = .ok (.invokevirtual 132, 3) := by decide +kernel
theorem dX3_undo_24 : decode cX3_undo 24 = .ok (.aload_n 0, 1) := by decide +kernel
theorem dX3_undo_25 : decode cX3_undo 25 = .ok (.getfield 12, 3) := by decide +kernel
theorem dX3_undo_28 : decode cX3_undo 28 = .ok (.getfield 104, 3) := by decide +kernel
theorem dX3_undo_31 : decode cX3_undo 31 = .ok (.ireturn, 1) := by decide +kernel
theorem dX3_tear_0 : decode cX3_tear 0 = .ok (.aload_n 0, 1) := by decide +kernel
theorem dX3_tear_1 : decode cX3_tear 1 = .ok (.getfield 22, 3) := by decide +kernel
theorem dX3_tear_4 : decode cX3_tear 4 = .ok (.ifCond .eq 7, 3) := by decide +kernel
theorem dX3_tear_7 : decode cX3_tear 7 = .ok (.iconst 1, 1) := by decide +kernel
theorem dX3_tear_8 : decode cX3_tear 8 = .ok (.goto 4, 3) := by decide +kernel
theorem dX3_tear_11 : decode cX3_tear 11 = .ok (.iconst 0, 1) := by decide +kernel
theorem dX3_tear_12 : decode cX3_tear 12 = .ok (.istore_n 1, 1) := by decide +kernel
theorem dX3_tear_13 : decode cX3_tear 13 = .ok (.aload_n 0, 1) := by decide +kernel
theorem dX3_tear_14 : decode cX3_tear 14 = .ok (.iconst 0, 1) := by decide +kernel
theorem dX3_tear_15 : decode cX3_tear 15 = .ok (.putfield 22, 3) := by decide +kernel
theorem dX3_tear_18 : decode cX3_tear 18 = .ok (.iload_n 1, 1) := by decide +kernel
theorem dX3_tear_19 : decode cX3_tear 19 = .ok (.ireturn, 1) := by decide +kernel
theorem dX3_count_0 : decode cX3_count 0 = .ok (.iload_n 1, 1) := by decide +kernel
theorem dX3_count_1 : decode cX3_count 1 = .ok (.tableswitch 114 0 7 #[47, 55, 63, 74, 82, 90, 98, 106], 47) := by decide +kernel
theorem dX3_count_48 : decode cX3_count 48 = .ok (.aload_n 0, 1) := by decide +kernel
theorem dX3_count_49 : decode cX3_count 49 = .ok (.getfield 12, 3) := by decide +kernel
theorem dX3_count_52 : decode cX3_count 52 = .ok (.getfield 104, 3) := by decide +kernel
theorem dX3_count_55 : decode cX3_count 55 = .ok (.ireturn, 1) := by decide +kernel
theorem dX3_count_56 : decode cX3_count 56 = .ok (.aload_n 0, 1) := by decide +kernel
theorem dX3_count_57 : decode cX3_count 57 = .ok (.getfield 12, 3) := by decide +kernel
theorem dX3_count_60 : decode cX3_count 60 = .ok (.getfield 78, 3) := by decide +kernel
theorem dX3_count_63 : decode cX3_count 63 = .ok (.ireturn, 1) := by decide +kernel
theorem dX3_count_64 : decode cX3_count 64 = .ok (.aload_n 0, 1) := by decide +kernel
theorem dX3_count_65 : decode cX3_count 65 = .ok (.getfield 12, 3) := by decide +kernel
theorem dX3_count_68 : decode cX3_count 68 = .ok (.invokevirtual 119, 3) := by decide +kernel
theorem dX3_count_71 : decode cX3_count 71 = .ok (.invokestatic 167, 3) := by decide +kernel
theorem dX3_count_74 : decode cX3_count 74 = .ok (.ireturn, 1) := by decide +kernel
theorem dX3_count_75 : decode cX3_count 75 = .ok (.aload_n 0, 1) := by decide +kernel
theorem dX3_count_76 : decode cX3_count 76 = .ok (.getfield 12, 3) := by decide +kernel
theorem dX3_count_79 : decode cX3_count 79 = .ok (.invokevirtual 116, 3) := by decide +kernel
theorem dX3_count_82 : decode cX3_count 82 = .ok (.ireturn, 1) := by decide +kernel
theorem dX3_count_83 : decode cX3_count 83 = .ok (.aload_n 0, 1) := by decide +kernel
theorem dX3_count_84 : decode cX3_count 84 = .ok (.getfield 12, 3) := by decide +kernel
theorem dX3_count_87 : decode cX3_count 87 = .ok (.invokevirtual 122, 3) := by decide +kernel
theorem dX3_count_90 : decode cX3_count 90 = .ok (.ireturn, 1) := by decide +kernel
theorem dX3_count_91 : decode cX3_count 91 = .ok (.aload_n 0, 1) := by decide +kernel
theorem dX3_count_92 : decode cX3_count 92 = .ok (.getfield 29, 3) := by decide +kernel
theorem dX3_count_95 : decode cX3_count 95 = .ok (.getfield 177, 3) := by decide +kernel
theorem dX3_count_98 : decode cX3_count 98 = .ok (.ireturn, 1) := by decide +kernel
theorem dX3_count_99 : decode cX3_count 99 = .ok (.aload_n 0, 1) := by decide +kernel
theorem dX3_count_100 : decode cX3_count 100 = .ok (.getfield 12, 3) := by decide +kernel
theorem dX3_count_103 : decode cX3_count 103 = .ok (.getfield 174, 3) := by decide +kernel
theorem dX3_count_106 : decode cX3_count 106 = .ok (.ireturn, 1) := by decide +kernel
theorem dX3_count_107 : decode cX3_count 107 = .ok (.aload_n 0, 1) := by decide +kernel
theorem dX3_count_108 : decode cX3_count 108 = .ok (.getfield 12, 3) := by decide +kernel
theorem dX3_count_111 : decode cX3_count 111 = .ok (.invokevirtual 230, 3) := by decide +kernel
theorem dX3_count_114 : decode cX3_count 114 = .ok (.ireturn, 1) := by decide +kernel
theorem dX3_count_115 : decode cX3_count 115 = .ok (.aload_n 0, 1) := by decide +kernel
theorem dX3_count_116 : decode cX3_count 116 = .ok (.iconst 0, 1) := by decide +kernel
theorem dX3_count_117 : decode cX3_count 117 = .ok (.invokevirtual 52, 3) := by decide +kernel
theorem dX3_count_120 : decode cX3_count 120 = .ok (.ireturn, 1) := by decide +kernel
theorem dX3_status_0 : decode cX3_status 0 = .ok (.iload_n 1, 1) := by decide +kernel
theorem dX3_status_1 : decode cX3_status 1 = .ok (.iconst (-1), 1) := by decide +kernel
theorem dX3_status_2 : decode cX3_status 2 = .ok (.bipush 6, 2) := by decide +kernel
theorem dX3_status_4 : decode cX3_status 4 = .ok (.invokestatic 48, 3) := by decide +kernel
theorem dX3_status_7 : decode cX3_status 7 = .ok (.ifCond .ne 9, 3) := by decide +kernel
theorem dX3_status_10 : decode cX3_status 10 = .ok (.aload_n 0, 1) := by decide +kernel
theorem dX3_status_11 : decode cX3_status 11 = .ok (.iconst 0, 1) := by decide +kernel
theorem dX3_status_12 : decode cX3_status 12 = .ok (.invokevirtual 52, 3) := by decide +kernel
theorem dX3_status_15 : decode cX3_status 15 = .ok (.ireturn, 1) := by decide +kernel
theorem dX3_status_16 : decode cX3_status 16 = .ok (.iload_n 1, 1) := by decide +kernel
theorem dX3_status_17 : decode cX3_status 17 = .ok (.ifCond .ge 10, 3) := by decide +kernel
theorem dX3_status_20 : decode cX3_status 20 = .ok (.aload_n 0, 1) := by decide +kernel
theorem dX3_status_21 : decode cX3_status 21 = .ok (.invokevirtual 233, 3) := by decide +kernel
theorem dX3_status_24 : decode cX3_status 24 = .ok (.goto 9, 3) := by decide +kernel
theorem dX3_status_27 : decode cX3_status 27 = .ok (.aload_n 0, 1) := by decide +kernel
theorem dX3_status_28 : decode cX3_status 28 = .ok (.getfield 40, 3) := by decide +kernel
theorem dX3_status_31 : decode cX3_status 31 = .ok (.iload_n 1, 1) := by decide +kernel
theorem dX3_status_32 : decode cX3_status 32 = .ok (.iaload, 1) := by decide +kernel
theorem dX3_status_33 : decode cX3_status 33 = .ok (.ireturn, 1) := by decide +kernel
theorem dX3_finding_0 : decode cX3_finding 0 = .ok (.aload_n 0, 1) := by decide +kernel
theorem dX3_finding_1 : decode cX3_finding 1 = .ok (.getfield 40, 3) := by decide +kernel
theorem dX3_finding_4 : decode cX3_finding 4 = .ok (.iload_n 1, 1) := by decide +kernel
theorem dX3_finding_5 : decode cX3_finding 5 = .ok (.dup2, 1) := by decide +kernel
theorem dX3_finding_6 : decode cX3_finding 6 = .ok (.iaload, 1) := by decide +kernel
theorem dX3_finding_7 : decode cX3_finding 7 = .ok (.iconst 1, 1) := by decide +kernel
theorem dX3_finding_8 : decode cX3_finding 8 = .ok (.iadd, 1) := by decide +kernel
theorem dX3_finding_9 : decode cX3_finding 9 = .ok (.iastore, 1) := by decide +kernel
theorem dX3_finding_10 : decode cX3_finding 10 = .ok (.ldc 236, 2) := by decide +kernel
theorem dX3_finding_12 : decode cX3_finding 12 = .ok (.iload_n 1, 1) := by decide +kernel
theorem dX3_finding_13 : decode cX3_finding 13 = .ok (.isub, 1) := by decide +kernel
theorem dX3_finding_14 : decode cX3_finding 14 = .ok (.ireturn, 1) := by decide +kernel
theorem dX3_allFound_0 : decode cX3_allFound 0 = .ok (.iconst 0, 1) := by decide +kernel
theorem dX3_allFound_1 : decode cX3_allFound 1 = .ok (.istore_n 1, 1) := by decide +kernel
theorem dX3_allFound_2 : decode cX3_allFound 2 = .ok (.iconst 0, 1) := by decide +kernel
theorem dX3_allFound_3 : decode cX3_allFound 3 = .ok (.istore_n 2, 1) := by decide +kernel
theorem dX3_allFound_4 : decode cX3_allFound 4 = .ok (.iload_n 2, 1) := by decide +kernel
theorem dX3_allFound_5 : decode cX3_allFound 5 = .ok (.bipush 7, 2) := by decide +kernel
theorem dX3_allFound_7 : decode cX3_allFound 7 = .ok (.if_icmp .ge 18, 3) := by decide +kernel
theorem dX3_allFound_10 : decode cX3_allFound 10 = .ok (.iload_n 1, 1) := by decide +kernel
theorem dX3_allFound_11 : decode cX3_allFound 11 = .ok (.aload_n 0, 1) := by decide +kernel
theorem dX3_allFound_12 : decode cX3_allFound 12 = .ok (.getfield 40, 3) := by decide +kernel
theorem dX3_allFound_15 : decode cX3_allFound 15 = .ok (.iload_n 2, 1) := by decide +kernel
theorem dX3_allFound_16 : decode cX3_allFound 16 = .ok (.iaload, 1) := by decide +kernel
theorem dX3_allFound_17 : decode cX3_allFound 17 = .ok (.iadd, 1) := by decide +kernel
theorem dX3_allFound_18 : decode cX3_allFound 18 = .ok (.istore_n 1, 1) := by decide +kernel
theorem dX3_allFound_19 : decode cX3_allFound 19 = .ok (.iinc 2 1, 3) := by decide +kernel
theorem dX3_allFound_22 : decode cX3_allFound 22 = .ok (.goto (-18), 3) := by decide +kernel
theorem dX3_allFound_25 : decode cX3_allFound 25 = .ok (.iload_n 1, 1) := by decide +kernel
theorem dX3_allFound_26 : decode cX3_allFound 26 = .ok (.ireturn, 1) := by decide +kernel
theorem dX3_isIn_0 : decode cX3_isIn 0 = .ok (.iload_n 0, 1) := by decide +kernel
theorem dX3_isIn_1 : decode cX3_isIn 1 = .ok (.iload_n 1, 1) := by decide +kernel
theorem dX3_isIn_2 : decode cX3_isIn 2 = .ok (.if_icmp .lt 12, 3) := by decide +kernel
theorem dX3_isIn_5 : decode cX3_isIn 5 = .ok (.iload_n 0, 1) := by decide +kernel
theorem dX3_isIn_6 : decode cX3_isIn 6 = .ok (.iload_n 2, 1) := by decide +kernel
theorem dX3_isIn_7 : decode cX3_isIn 7 = .ok (.if_icmp .gt 7, 3) := by decide +kernel
theorem dX3_isIn_10 : decode cX3_isIn 10 = .ok (.iconst 1, 1) := by decide +kernel
theorem dX3_isIn_11 : decode cX3_isIn 11 = .ok (.goto 4, 3) := by decide +kernel
theorem dX3_isIn_14 : decode cX3_isIn 14 = .ok (.iconst 0, 1) := by decide +kernel
theorem dX3_isIn_15 : decode cX3_isIn 15 = .ok (.ireturn, 1) := by decide +kernel
theorem dX3_isField_0 : decode cX3_isField 0 = .ok (.iload_n 0, 1) := by decide +kernel
theorem dX3_isField_1 : decode cX3_isField 1 = .ok (.iconst 0, 1) := by decide +kernel
theorem dX3_isField_2 : decode cX3_isField 2 = .ok (.bipush 8, 2) := by decide +kernel
theorem dX3_isField_4 : decode cX3_isField 4 = .ok (.invokestatic 48, 3) := by decide +kernel
theorem dX3_isField_7 : decode cX3_isField 7 = .ok (.ireturn, 1) := by decide +kernel
theorem dX3_isGate_0 : decode cX3_isGate 0 = .ok (.iload_n 0, 1) := by decide +kernel
theorem dX3_isGate_1 : decode cX3_isGate 1 = .ok (.iconst 0, 1) := by decide +kernel
theorem dX3_isGate_2 : decode cX3_isGate 2 = .ok (.bipush 7, 2) := by decide +kernel
theorem dX3_isGate_4 : decode cX3_isGate 4 = .ok (.invokestatic 48, 3) := by decide +kernel
theorem dX3_isGate_7 : decode cX3_isGate 7 = .ok (.ireturn, 1) := by decide +kernel
theorem dX3_isManner_0 : decode cX3_isManner 0 = .ok (.iload_n 0, 1) := by decide +kernel
theorem dX3_isManner_1 : decode cX3_isManner 1 = .ok (.iconst 0, 1) := by decide +kernel
theorem dX3_isManner_2 : decode cX3_isManner 2 = .ok (.iconst 3, 1) := by decide +kernel
theorem dX3_isManner_3 : decode cX3_isManner 3 = .ok (.invokestatic 48, 3) := by decide +kernel
theorem dX3_isManner_6 : decode cX3_isManner 6 = .ok (.ireturn, 1) := by decide +kernel
theorem dX3_isKind_0 : decode cX3_isKind 0 = .ok (.iload_n 0, 1) := by decide +kernel
theorem dX3_isKind_1 : decode cX3_isKind 1 = .ok (.iconst 0, 1) := by decide +kernel
theorem dX3_isKind_2 : decode cX3_isKind 2 = .ok (.bipush 6, 2) := by decide +kernel
theorem dX3_isKind_4 : decode cX3_isKind 4 = .ok (.invokestatic 48, 3) := by decide +kernel
theorem dX3_isKind_7 : decode cX3_isKind 7 = .ok (.ireturn, 1) := by decide +kernel
theorem dX3_isSpot_0 : decode cX3_isSpot 0 = .ok (.iload_n 0, 1) := by decide +kernel
theorem dX3_isSpot_1 : decode cX3_isSpot 1 = .ok (.iconst 0, 1) := by decide +kernel
theorem dX3_isSpot_2 : decode cX3_isSpot 2 = .ok (.bipush 9, 2) := by decide +kernel
theorem dX3_isSpot_4 : decode cX3_isSpot 4 = .ok (.invokestatic 48, 3) := by decide +kernel
theorem dX3_isSpot_7 : decode cX3_isSpot 7 = .ok (.ireturn, 1) := by decide +kernel
theorem dX3_isSheet_0 : decode cX3_isSheet 0 = .ok (.iload_n 0, 1) := by decide +kernel
theorem dX3_isSheet_1 : decode cX3_isSheet 1 = .ok (.iconst 0, 1) := by decide +kernel
theorem dX3_isSheet_2 : decode cX3_isSheet 2 = .ok (.iconst 3, 1) := by decide +kernel
theorem dX3_isSheet_3 : decode cX3_isSheet 3 = .ok (.invokestatic 48, 3) := by decide +kernel
theorem dX3_isSheet_6 : decode cX3_isSheet 6 = .ok (.ireturn, 1) := by decide +kernel
theorem dX3_isWalker_0 : decode cX3_isWalker 0 = .ok (.iload_n 1, 1) := by decide +kernel
theorem dX3_isWalker_1 : decode cX3_isWalker 1 = .ok (.iconst 0, 1) := by decide +kernel
theorem dX3_isWalker_2 : decode cX3_isWalker 2 = .ok (.aload_n 0, 1) := by decide +kernel
theorem dX3_isWalker_3 : decode cX3_isWalker 3 = .ok (.getfield 12, 3) := by decide +kernel
theorem dX3_isWalker_6 : decode cX3_isWalker 6 = .ok (.getfield 78, 3) := by decide +kernel
theorem dX3_isWalker_9 : decode cX3_isWalker 9 = .ok (.iconst 1, 1) := by decide +kernel
theorem dX3_isWalker_10 : decode cX3_isWalker 10 = .ok (.isub, 1) := by decide +kernel
theorem dX3_isWalker_11 : decode cX3_isWalker 11 = .ok (.invokestatic 48, 3) := by decide +kernel
theorem dX3_isWalker_14 : decode cX3_isWalker 14 = .ok (.ireturn, 1) := by decide +kernel
theorem dX3_isWish_0 : decode cX3_isWish 0 = .ok (.aload_n 0, 1) := by decide +kernel
theorem dX3_isWish_1 : decode cX3_isWish 1 = .ok (.iload_n 1, 1) := by decide +kernel
theorem dX3_isWish_2 : decode cX3_isWish 2 = .ok (.invokevirtual 85, 3) := by decide +kernel
theorem dX3_isWish_5 : decode cX3_isWish 5 = .ok (.ifCond .eq 32, 3) := by decide +kernel
theorem dX3_isWish_8 : decode cX3_isWish 8 = .ok (.iload_n 2, 1) := by decide +kernel
theorem dX3_isWish_9 : decode cX3_isWish 9 = .ok (.invokestatic 62, 3) := by decide +kernel
theorem dX3_isWish_12 : decode cX3_isWish 12 = .ok (.ifCond .eq 25, 3) := by decide +kernel
theorem dX3_isWish_15 : decode cX3_isWish 15 = .ok (.iload_n 3, 1) := by decide +kernel
theorem dX3_isWish_16 : decode cX3_isWish 16 = .ok (.invokestatic 65, 3) := by decide +kernel
theorem dX3_isWish_19 : decode cX3_isWish 19 = .ok (.ifCond .eq 18, 3) := by decide +kernel
theorem dX3_isWish_22 : decode cX3_isWish 22 = .ok (.iload 4, 2) := by decide +kernel
theorem dX3_isWish_24 : decode cX3_isWish 24 = .ok (.iconst 0, 1) := by decide +kernel
theorem dX3_isWish_25 : decode cX3_isWish 25 = .ok (.bipush 40, 2) := by decide +kernel
theorem dX3_isWish_27 : decode cX3_isWish 27 = .ok (.invokestatic 48, 3) := by decide +kernel
theorem dX3_isWish_30 : decode cX3_isWish 30 = .ok (.ifCond .eq 7, 3) := by decide +kernel
theorem dX3_isWish_33 : decode cX3_isWish 33 = .ok (.iconst 1, 1) := by decide +kernel
theorem dX3_isWish_34 : decode cX3_isWish 34 = .ok (.goto 4, 3) := by decide +kernel
theorem dX3_isWish_37 : decode cX3_isWish 37 = .ok (.iconst 0, 1) := by decide +kernel
theorem dX3_isWish_38 : decode cX3_isWish 38 = .ok (.ireturn, 1) := by decide +kernel
theorem dX3_wrongSheet_0 : decode cX3_wrongSheet 0 = .ok (.iload_n 1, 1) := by decide +kernel
theorem dX3_wrongSheet_1 : decode cX3_wrongSheet 1 = .ok (.invokestatic 197, 3) := by decide +kernel
theorem dX3_wrongSheet_4 : decode cX3_wrongSheet 4 = .ok (.ifCond .ne 5, 3) := by decide +kernel
theorem dX3_wrongSheet_7 : decode cX3_wrongSheet 7 = .ok (.iconst 0, 1) := by decide +kernel
theorem dX3_wrongSheet_8 : decode cX3_wrongSheet 8 = .ok (.ireturn, 1) := by decide +kernel
theorem dX3_wrongSheet_9 : decode cX3_wrongSheet 9 = .ok (.aload_n 0, 1) := by decide +kernel
theorem dX3_wrongSheet_10 : decode cX3_wrongSheet 10 = .ok (.getfield 35, 3) := by decide +kernel
theorem dX3_wrongSheet_13 : decode cX3_wrongSheet 13 = .ok (.iload_n 1, 1) := by decide +kernel
theorem dX3_wrongSheet_14 : decode cX3_wrongSheet 14 = .ok (.aaload, 1) := by decide +kernel
theorem dX3_wrongSheet_15 : decode cX3_wrongSheet 15 = .ok (.invokevirtual 206, 3) := by decide +kernel
theorem dX3_wrongSheet_18 : decode cX3_wrongSheet 18 = .ok (.ifCond .eq 7, 3) := by decide +kernel
theorem dX3_wrongSheet_21 : decode cX3_wrongSheet 21 = .ok (.iconst 5, 1) := by decide +kernel
theorem dX3_wrongSheet_22 : decode cX3_wrongSheet 22 = .ok (.goto 4, 3) := by decide +kernel
theorem dX3_wrongSheet_25 : decode cX3_wrongSheet 25 = .ok (.iconst (-1), 1) := by decide +kernel
theorem dX3_wrongSheet_26 : decode cX3_wrongSheet 26 = .ok (.ireturn, 1) := by decide +kernel
theorem dX3_isUnder_0 : decode cX3_isUnder 0 = .ok (.iload_n 0, 1) := by decide +kernel
theorem dX3_isUnder_1 : decode cX3_isUnder 1 = .ok (.istore_n 2, 1) := by decide +kernel
theorem dX3_isUnder_2 : decode cX3_isUnder 2 = .ok (.iconst 0, 1) := by decide +kernel
theorem dX3_isUnder_3 : decode cX3_isUnder 3 = .ok (.istore_n 3, 1) := by decide +kernel
theorem dX3_isUnder_4 : decode cX3_isUnder 4 = .ok (.iload_n 3, 1) := by decide +kernel
theorem dX3_isUnder_5 : decode cX3_isUnder 5 = .ok (.bipush 7, 2) := by decide +kernel
theorem dX3_isUnder_7 : decode cX3_isUnder 7 = .ok (.if_icmp .ge 29, 3) := by decide +kernel
theorem dX3_isUnder_10 : decode cX3_isUnder 10 = .ok (.iload_n 2, 1) := by decide +kernel
theorem dX3_isUnder_11 : decode cX3_isUnder 11 = .ok (.invokestatic 75, 3) := by decide +kernel
theorem dX3_isUnder_14 : decode cX3_isUnder 14 = .ok (.ifCond .eq 22, 3) := by decide +kernel
theorem dX3_isUnder_17 : decode cX3_isUnder 17 = .ok (.iload_n 2, 1) := by decide +kernel
theorem dX3_isUnder_18 : decode cX3_isUnder 18 = .ok (.iload_n 1, 1) := by decide +kernel
theorem dX3_isUnder_19 : decode cX3_isUnder 19 = .ok (.if_icmp .ne 5, 3) := by decide +kernel
theorem dX3_isUnder_22 : decode cX3_isUnder 22 = .ok (.iconst 1, 1) := by decide +kernel
theorem dX3_isUnder_23 : decode cX3_isUnder 23 = .ok (.ireturn, 1) := by decide +kernel
theorem dX3_isUnder_24 : decode cX3_isUnder 24 = .ok (.getstatic 237, 3) := by decide +kernel
theorem dX3_isUnder_27 : decode cX3_isUnder 27 = .ok (.iload_n 2, 1) := by decide +kernel
theorem dX3_isUnder_28 : decode cX3_isUnder 28 = .ok (.iaload, 1) := by decide +kernel
theorem dX3_isUnder_29 : decode cX3_isUnder 29 = .ok (.istore_n 2, 1) := by decide +kernel
theorem dX3_isUnder_30 : decode cX3_isUnder 30 = .ok (.iinc 3 1, 3) := by decide +kernel
theorem dX3_isUnder_33 : decode cX3_isUnder 33 = .ok (.goto (-29), 3) := by decide +kernel
theorem dX3_isUnder_36 : decode cX3_isUnder 36 = .ok (.iconst 0, 1) := by decide +kernel
theorem dX3_isUnder_37 : decode cX3_isUnder 37 = .ok (.ireturn, 1) := by decide +kernel
theorem dX3_tryHours_0 : decode cX3_tryHours 0 = .ok (.aload_n 0, 1) := by decide +kernel
theorem dX3_tryHours_1 : decode cX3_tryHours 1 = .ok (.getfield 16, 3) := by decide +kernel
theorem dX3_tryHours_4 : decode cX3_tryHours 4 = .ok (.aload_n 0, 1) := by decide +kernel
theorem dX3_tryHours_5 : decode cX3_tryHours 5 = .ok (.getfield 12, 3) := by decide +kernel
theorem dX3_tryHours_8 : decode cX3_tryHours 8 = .ok (.invokevirtual 132, 3) := by decide +kernel
theorem dX3_tryHours_11 : decode cX3_tryHours 11 = .ok (.aload_n 0, 1) := by decide +kernel
theorem dX3_tryHours_12 : decode cX3_tryHours 12 = .ok (.getfield 16, 3) := by decide +kernel
theorem dX3_tryHours_15 : decode cX3_tryHours 15 = .ok (.iload_n 1, 1) := by decide +kernel
theorem dX3_tryHours_16 : decode cX3_tryHours 16 = .ok (.sipush 255, 3) := by decide +kernel
theorem dX3_tryHours_19 : decode cX3_tryHours 19 = .ok (.invokevirtual 108, 3) := by decide +kernel
theorem dX3_tryHours_22 : decode cX3_tryHours 22 = .ok (.return_, 1) := by decide +kernel
theorem dX3_valuesFor_0 : decode cX3_valuesFor 0 = .ok (.iconst 0, 1) := by decide +kernel
theorem dX3_valuesFor_1 : decode cX3_valuesFor 1 = .ok (.istore 6, 2) := by decide +kernel
theorem dX3_valuesFor_3 : decode cX3_valuesFor 3 = .ok (.iconst 0, 1) := by decide +kernel
theorem dX3_valuesFor_4 : decode cX3_valuesFor 4 = .ok (.istore 7, 2) := by decide +kernel
theorem dX3_valuesFor_6 : decode cX3_valuesFor 6 = .ok (.iload 7, 2) := by decide +kernel
theorem dX3_valuesFor_8 : decode cX3_valuesFor 8 = .ok (.getstatic 95, 3) := by decide +kernel
theorem dX3_valuesFor_11 : decode cX3_valuesFor 11 = .ok (.iload_n 2, 1) := by decide +kernel
theorem dX3_valuesFor_12 : decode cX3_valuesFor 12 = .ok (.iaload, 1) := by decide +kernel
theorem dX3_valuesFor_13 : decode cX3_valuesFor 13 = .ok (.if_icmp .gt 68, 3) := by decide +kernel
theorem dX3_valuesFor_16 : decode cX3_valuesFor 16 = .ok (.aload_n 0, 1) := by decide +kernel
theorem dX3_valuesFor_17 : decode cX3_valuesFor 17 = .ok (.getfield 16, 3) := by decide +kernel
theorem dX3_valuesFor_20 : decode cX3_valuesFor 20 = .ok (.aload_n 0, 1) := by decide +kernel
theorem dX3_valuesFor_21 : decode cX3_valuesFor 21 = .ok (.getfield 12, 3) := by decide +kernel
theorem dX3_valuesFor_24 : decode cX3_valuesFor 24 = .ok (.invokevirtual 132, 3) := by decide +kernel
theorem dX3_valuesFor_27 : decode cX3_valuesFor 27 = .ok (.aload_n 0, 1) := by decide +kernel
theorem dX3_valuesFor_28 : decode cX3_valuesFor 28 = .ok (.getfield 16, 3) := by decide +kernel
theorem dX3_valuesFor_31 : decode cX3_valuesFor 31 = .ok (.getfield 91, 3) := by decide +kernel
theorem dX3_valuesFor_34 : decode cX3_valuesFor 34 = .ok (.iload_n 2, 1) := by decide +kernel
theorem dX3_valuesFor_35 : decode cX3_valuesFor 35 = .ok (.aaload, 1) := by decide +kernel
theorem dX3_valuesFor_36 : decode cX3_valuesFor 36 = .ok (.iload_n 1, 1) := by decide +kernel
theorem dX3_valuesFor_37 : decode cX3_valuesFor 37 = .ok (.iload 7, 2) := by decide +kernel
theorem dX3_valuesFor_39 : decode cX3_valuesFor 39 = .ok (.iastore, 1) := by decide +kernel
theorem dX3_valuesFor_40 : decode cX3_valuesFor 40 = .ok (.aload_n 0, 1) := by decide +kernel
theorem dX3_valuesFor_41 : decode cX3_valuesFor 41 = .ok (.getfield 16, 3) := by decide +kernel
theorem dX3_valuesFor_44 : decode cX3_valuesFor 44 = .ok (.iload 5, 2) := by decide +kernel
theorem dX3_valuesFor_46 : decode cX3_valuesFor 46 = .ok (.sipush 255, 3) := by decide +kernel
theorem dX3_valuesFor_49 : decode cX3_valuesFor 49 = .ok (.invokevirtual 108, 3) := by decide +kernel
theorem dX3_valuesFor_52 : decode cX3_valuesFor 52 = .ok (.aload_n 0, 1) := by decide +kernel
theorem dX3_valuesFor_53 : decode cX3_valuesFor 53 = .ok (.getfield 16, 3) := by decide +kernel
theorem dX3_valuesFor_56 : decode cX3_valuesFor 56 = .ok (.getfield 68, 3) := by decide +kernel
theorem dX3_valuesFor_59 : decode cX3_valuesFor 59 = .ok (.iload_n 3, 1) := by decide +kernel
theorem dX3_valuesFor_60 : decode cX3_valuesFor 60 = .ok (.iaload, 1) := by decide +kernel
theorem dX3_valuesFor_61 : decode cX3_valuesFor 61 = .ok (.iload 4, 2) := by decide +kernel
theorem dX3_valuesFor_63 : decode cX3_valuesFor 63 = .ok (.if_icmp .ne 12, 3) := by decide +kernel
theorem dX3_valuesFor_66 : decode cX3_valuesFor 66 = .ok (.iload 6, 2) := by decide +kernel
theorem dX3_valuesFor_68 : decode cX3_valuesFor 68 = .ok (.iconst 1, 1) := by decide +kernel
theorem dX3_valuesFor_69 : decode cX3_valuesFor 69 = .ok (.iload 7, 2) := by decide +kernel
theorem dX3_valuesFor_71 : decode cX3_valuesFor 71 = .ok (.ishl, 1) := by decide +kernel
theorem dX3_valuesFor_72 : decode cX3_valuesFor 72 = .ok (.ior, 1) := by decide +kernel
theorem dX3_valuesFor_73 : decode cX3_valuesFor 73 = .ok (.istore 6, 2) := by decide +kernel
theorem dX3_valuesFor_75 : decode cX3_valuesFor 75 = .ok (.iinc 7 1, 3) := by decide +kernel
theorem dX3_valuesFor_78 : decode cX3_valuesFor 78 = .ok (.goto (-72), 3) := by decide +kernel
theorem dX3_valuesFor_81 : decode cX3_valuesFor 81 = .ok (.iload 6, 2) := by decide +kernel
theorem dX3_valuesFor_83 : decode cX3_valuesFor 83 = .ok (.ireturn, 1) := by decide +kernel
theorem dX3_leastHome_0 : decode cX3_leastHome 0 = .ok (.iconst 0, 1) := by decide +kernel
theorem dX3_leastHome_1 : decode cX3_leastHome 1 = .ok (.istore 5, 2) := by decide +kernel
theorem dX3_leastHome_3 : decode cX3_leastHome 3 = .ok (.iload 5, 2) := by decide +kernel
theorem dX3_leastHome_5 : decode cX3_leastHome 5 = .ok (.iconst 1, 1) := by decide +kernel
theorem dX3_leastHome_6 : decode cX3_leastHome 6 = .ok (.aload_n 0, 1) := by decide +kernel
theorem dX3_leastHome_7 : decode cX3_leastHome 7 = .ok (.getfield 12, 3) := by decide +kernel
theorem dX3_leastHome_10 : decode cX3_leastHome 10 = .ok (.getfield 78, 3) := by decide +kernel
theorem dX3_leastHome_13 : decode cX3_leastHome 13 = .ok (.ishl, 1) := by decide +kernel
theorem dX3_leastHome_14 : decode cX3_leastHome 14 = .ok (.if_icmp .ge 62, 3) := by decide +kernel
theorem dX3_leastHome_17 : decode cX3_leastHome 17 = .ok (.iload 5, 2) := by decide +kernel
theorem dX3_leastHome_19 : decode cX3_leastHome 19 = .ok (.invokestatic 167, 3) := by decide +kernel
theorem dX3_leastHome_22 : decode cX3_leastHome 22 = .ok (.iload_n 1, 1) := by decide +kernel
theorem dX3_leastHome_23 : decode cX3_leastHome 23 = .ok (.if_icmp .ne 47, 3) := by decide +kernel
theorem dX3_leastHome_26 : decode cX3_leastHome 26 = .ok (.aload_n 0, 1) := by decide +kernel
theorem dX3_leastHome_27 : decode cX3_leastHome 27 = .ok (.getfield 16, 3) := by decide +kernel
theorem dX3_leastHome_30 : decode cX3_leastHome 30 = .ok (.aload_n 0, 1) := by decide +kernel
theorem dX3_leastHome_31 : decode cX3_leastHome 31 = .ok (.getfield 12, 3) := by decide +kernel
theorem dX3_leastHome_34 : decode cX3_leastHome 34 = .ok (.invokevirtual 132, 3) := by decide +kernel
theorem dX3_leastHome_37 : decode cX3_leastHome 37 = .ok (.aload_n 0, 1) := by decide +kernel
theorem dX3_leastHome_38 : decode cX3_leastHome 38 = .ok (.getfield 16, 3) := by decide +kernel
theorem dX3_leastHome_41 : decode cX3_leastHome 41 = .ok (.iload 4, 2) := by decide +kernel
theorem dX3_leastHome_43 : decode cX3_leastHome 43 = .ok (.sipush 255, 3) := by decide +kernel
theorem dX3_leastHome_46 : decode cX3_leastHome 46 = .ok (.iload 5, 2) := by decide +kernel
theorem dX3_leastHome_48 : decode cX3_leastHome 48 = .ok (.iconst (-1), 1) := by decide +kernel
theorem dX3_leastHome_49 : decode cX3_leastHome 49 = .ok (.ixor, 1) := by decide +kernel
theorem dX3_leastHome_50 : decode cX3_leastHome 50 = .ok (.iand, 1) := by decide +kernel
theorem dX3_leastHome_51 : decode cX3_leastHome 51 = .ok (.invokevirtual 108, 3) := by decide +kernel
theorem dX3_leastHome_54 : decode cX3_leastHome 54 = .ok (.aload_n 0, 1) := by decide +kernel
theorem dX3_leastHome_55 : decode cX3_leastHome 55 = .ok (.getfield 16, 3) := by decide +kernel
theorem dX3_leastHome_58 : decode cX3_leastHome 58 = .ok (.getfield 56, 3) := by decide +kernel
theorem dX3_leastHome_61 : decode cX3_leastHome 61 = .ok (.iload_n 2, 1) := by decide +kernel
theorem dX3_leastHome_62 : decode cX3_leastHome 62 = .ok (.iaload, 1) := by decide +kernel
theorem dX3_leastHome_63 : decode cX3_leastHome 63 = .ok (.iload_n 3, 1) := by decide +kernel
theorem dX3_leastHome_64 : decode cX3_leastHome 64 = .ok (.if_icmp .gt 6, 3) := by decide +kernel
theorem dX3_leastHome_67 : decode cX3_leastHome 67 = .ok (.iload 5, 2) := by decide +kernel
theorem dX3_leastHome_69 : decode cX3_leastHome 69 = .ok (.ireturn, 1) := by decide +kernel
theorem dX3_leastHome_70 : decode cX3_leastHome 70 = .ok (.iinc 5 1, 3) := by decide +kernel
theorem dX3_leastHome_73 : decode cX3_leastHome 73 = .ok (.goto (-70), 3) := by decide +kernel
theorem dX3_leastHome_76 : decode cX3_leastHome 76 = .ok (.iconst (-1), 1) := by decide +kernel
theorem dX3_leastHome_77 : decode cX3_leastHome 77 = .ok (.ireturn, 1) := by decide +kernel
theorem dX3_feelsAsTold_0 : decode cX3_feelsAsTold 0 = .ok (.iconst 0, 1) := by decide +kernel
theorem dX3_feelsAsTold_1 : decode cX3_feelsAsTold 1 = .ok (.istore_n 3, 1) := by decide +kernel
theorem dX3_feelsAsTold_2 : decode cX3_feelsAsTold 2 = .ok (.iload_n 3, 1) := by decide +kernel
theorem dX3_feelsAsTold_3 : decode cX3_feelsAsTold 3 = .ok (.aload_n 1, 1) := by decide +kernel
theorem dX3_feelsAsTold_4 : decode cX3_feelsAsTold 4 = .ok (.getfield 203, 3) := by decide +kernel
theorem dX3_feelsAsTold_7 : decode cX3_feelsAsTold 7 = .ok (.if_icmp .ge 56, 3) := by decide +kernel
theorem dX3_feelsAsTold_10 : decode cX3_feelsAsTold 10 = .ok (.iload_n 3, 1) := by decide +kernel
theorem dX3_feelsAsTold_11 : decode cX3_feelsAsTold 11 = .ok (.ifCond .le 14, 3) := by decide +kernel
theorem dX3_feelsAsTold_14 : decode cX3_feelsAsTold 14 = .ok (.aload_n 0, 1) := by decide +kernel
theorem dX3_feelsAsTold_15 : decode cX3_feelsAsTold 15 = .ok (.getfield 16, 3) := by decide +kernel
theorem dX3_feelsAsTold_18 : decode cX3_feelsAsTold 18 = .ok (.iconst 1, 1) := by decide +kernel
theorem dX3_feelsAsTold_19 : decode cX3_feelsAsTold 19 = .ok (.sipush 255, 3) := by decide +kernel
theorem dX3_feelsAsTold_22 : decode cX3_feelsAsTold 22 = .ok (.invokevirtual 108, 3) := by decide +kernel
theorem dX3_feelsAsTold_25 : decode cX3_feelsAsTold 25 = .ok (.aload_n 1, 1) := by decide +kernel
theorem dX3_feelsAsTold_26 : decode cX3_feelsAsTold 26 = .ok (.getfield 216, 3) := by decide +kernel
theorem dX3_feelsAsTold_29 : decode cX3_feelsAsTold 29 = .ok (.iload_n 3, 1) := by decide +kernel
theorem dX3_feelsAsTold_30 : decode cX3_feelsAsTold 30 = .ok (.iaload, 1) := by decide +kernel
theorem dX3_feelsAsTold_31 : decode cX3_feelsAsTold 31 = .ok (.istore 4, 2) := by decide +kernel
theorem dX3_feelsAsTold_33 : decode cX3_feelsAsTold 33 = .ok (.iload 4, 2) := by decide +kernel
theorem dX3_feelsAsTold_35 : decode cX3_feelsAsTold 35 = .ok (.iconst (-1), 1) := by decide +kernel
theorem dX3_feelsAsTold_36 : decode cX3_feelsAsTold 36 = .ok (.if_icmp .eq 21, 3) := by decide +kernel
theorem dX3_feelsAsTold_39 : decode cX3_feelsAsTold 39 = .ok (.iload 4, 2) := by decide +kernel
theorem dX3_feelsAsTold_41 : decode cX3_feelsAsTold 41 = .ok (.aload_n 0, 1) := by decide +kernel
theorem dX3_feelsAsTold_42 : decode cX3_feelsAsTold 42 = .ok (.getfield 16, 3) := by decide +kernel
theorem dX3_feelsAsTold_45 : decode cX3_feelsAsTold 45 = .ok (.getfield 91, 3) := by decide +kernel
theorem dX3_feelsAsTold_48 : decode cX3_feelsAsTold 48 = .ok (.iconst 3, 1) := by decide +kernel
theorem dX3_feelsAsTold_49 : decode cX3_feelsAsTold 49 = .ok (.aaload, 1) := by decide +kernel
theorem dX3_feelsAsTold_50 : decode cX3_feelsAsTold 50 = .ok (.iload_n 2, 1) := by decide +kernel
theorem dX3_feelsAsTold_51 : decode cX3_feelsAsTold 51 = .ok (.iaload, 1) := by decide +kernel
theorem dX3_feelsAsTold_52 : decode cX3_feelsAsTold 52 = .ok (.if_icmp .eq 5, 3) := by decide +kernel
theorem dX3_feelsAsTold_55 : decode cX3_feelsAsTold 55 = .ok (.iconst 0, 1) := by decide +kernel
theorem dX3_feelsAsTold_56 : decode cX3_feelsAsTold 56 = .ok (.ireturn, 1) := by decide +kernel
theorem dX3_feelsAsTold_57 : decode cX3_feelsAsTold 57 = .ok (.iinc 3 1, 3) := by decide +kernel
theorem dX3_feelsAsTold_60 : decode cX3_feelsAsTold 60 = .ok (.goto (-58), 3) := by decide +kernel
theorem dX3_feelsAsTold_63 : decode cX3_feelsAsTold 63 = .ok (.iconst 1, 1) := by decide +kernel
theorem dX3_feelsAsTold_64 : decode cX3_feelsAsTold 64 = .ok (.ireturn, 1) := by decide +kernel
theorem dX3_power_0 : decode cX3_power 0 = .ok (.lconst 1, 1) := by decide +kernel
theorem dX3_power_1 : decode cX3_power 1 = .ok (.lstore_n 2, 1) := by decide +kernel
theorem dX3_power_2 : decode cX3_power 2 = .ok (.iconst 0, 1) := by decide +kernel
theorem dX3_power_3 : decode cX3_power 3 = .ok (.istore 4, 2) := by decide +kernel
theorem dX3_power_5 : decode cX3_power 5 = .ok (.iload 4, 2) := by decide +kernel
theorem dX3_power_7 : decode cX3_power 7 = .ok (.iload_n 1, 1) := by decide +kernel
theorem dX3_power_8 : decode cX3_power 8 = .ok (.if_icmp .ge 14, 3) := by decide +kernel
theorem dX3_power_11 : decode cX3_power 11 = .ok (.lload_n 2, 1) := by decide +kernel
theorem dX3_power_12 : decode cX3_power 12 = .ok (.iload_n 0, 1) := by decide +kernel
theorem dX3_power_13 : decode cX3_power 13 = .ok (.i2l, 1) := by decide +kernel
theorem dX3_power_14 : decode cX3_power 14 = .ok (.lmul, 1) := by decide +kernel
theorem dX3_power_15 : decode cX3_power 15 = .ok (.lstore_n 2, 1) := by decide +kernel
theorem dX3_power_16 : decode cX3_power 16 = .ok (.iinc 4 1, 3) := by decide +kernel
theorem dX3_power_19 : decode cX3_power 19 = .ok (.goto (-14), 3) := by decide +kernel
theorem dX3_power_22 : decode cX3_power 22 = .ok (.lload_n 2, 1) := by decide +kernel
theorem dX3_power_23 : decode cX3_power 23 = .ok (.lreturn, 1) := by decide +kernel
end
section
theorem dX4_init_0 : decode cX4_init 0 = .ok (.aload_n 0, 1) := by decide +kernel
theorem dX4_init_1 : decode cX4_init 1 = .ok (.invokespecial 1, 3) := by decide +kernel
theorem dX4_init_4 : decode cX4_init 4 = .ok (.aload_n 0, 1) := by decide +kernel
theorem dX4_init_5 : decode cX4_init 5 = .ok (.bipush 71, 2) := by decide +kernel
theorem dX4_init_7 : decode cX4_init 7 = .ok (.newarray .int, 2) := by decide +kernel
theorem dX4_init_9 : decode cX4_init 9 = .ok (.putfield 7, 3) := by decide +kernel
theorem dX4_init_12 : decode cX4_init 12 = .ok (.aload_n 0, 1) := by decide +kernel
theorem dX4_init_13 : decode cX4_init 13 = .ok (.bipush 71, 2) := by decide +kernel
theorem dX4_init_15 : decode cX4_init 15 = .ok (.newarray .int, 2) := by decide +kernel
theorem dX4_init_17 : decode cX4_init 17 = .ok (.putfield 13, 3) := by decide +kernel
theorem dX4_init_20 : decode cX4_init 20 = .ok (.aload_n 0, 1) := by decide +kernel
theorem dX4_init_21 : decode cX4_init 21 = .ok (.bipush 71, 2) := by decide +kernel
theorem dX4_init_23 : decode cX4_init 23 = .ok (.newarray .int, 2) := by decide +kernel
theorem dX4_init_25 : decode cX4_init 25 = .ok (.putfield 16, 3) := by decide +kernel
theorem dX4_init_28 : decode cX4_init 28 = .ok (.aload_n 0, 1) := by decide +kernel
theorem dX4_init_29 : decode cX4_init 29 = .ok (.bipush 71, 2) := by decide +kernel
theorem dX4_init_31 : decode cX4_init 31 = .ok (.newarray .int, 2) := by decide +kernel
theorem dX4_init_33 : decode cX4_init 33 = .ok (.putfield 19, 3) := by decide +kernel
theorem dX4_init_36 : decode cX4_init 36 = .ok (.aload_n 0, 1) := by decide +kernel
theorem dX4_init_37 : decode cX4_init 37 = .ok (.bipush 8, 2) := by decide +kernel
theorem dX4_init_39 : decode cX4_init 39 = .ok (.newarray .int, 2) := by decide +kernel
theorem dX4_init_41 : decode cX4_init 41 = .ok (.putfield 22, 3) := by decide +kernel
theorem dX4_init_44 : decode cX4_init 44 = .ok (.aload_n 0, 1) := by decide +kernel
theorem dX4_init_45 : decode cX4_init 45 = .ok (.bipush 120, 2) := by decide +kernel
theorem dX4_init_47 : decode cX4_init 47 = .ok (.newarray .int, 2) := by decide +kernel
theorem dX4_init_49 : decode cX4_init 49 = .ok (.putfield 25, 3) := by decide +kernel
theorem dX4_init_52 : decode cX4_init 52 = .ok (.aload_n 0, 1) := by decide +kernel
theorem dX4_init_53 : decode cX4_init 53 = .ok (.iconst 4, 1) := by decide +kernel
theorem dX4_init_54 : decode cX4_init 54 = .ok (.newarray .int, 2) := by decide +kernel
theorem dX4_init_56 : decode cX4_init 56 = .ok (.dup, 1) := by decide +kernel
theorem dX4_init_57 : decode cX4_init 57 = .ok (.iconst 0, 1) := by decide +kernel
theorem dX4_init_58 : decode cX4_init 58 = .ok (.iconst (-1), 1) := by decide +kernel
theorem dX4_init_59 : decode cX4_init 59 = .ok (.iastore, 1) := by decide +kernel
theorem dX4_init_60 : decode cX4_init 60 = .ok (.dup, 1) := by decide +kernel
theorem dX4_init_61 : decode cX4_init 61 = .ok (.iconst 1, 1) := by decide +kernel
theorem dX4_init_62 : decode cX4_init 62 = .ok (.iconst (-1), 1) := by decide +kernel
theorem dX4_init_63 : decode cX4_init 63 = .ok (.iastore, 1) := by decide +kernel
theorem dX4_init_64 : decode cX4_init 64 = .ok (.dup, 1) := by decide +kernel
theorem dX4_init_65 : decode cX4_init 65 = .ok (.iconst 2, 1) := by decide +kernel
theorem dX4_init_66 : decode cX4_init 66 = .ok (.iconst (-1), 1) := by decide +kernel
theorem dX4_init_67 : decode cX4_init 67 = .ok (.iastore, 1) := by decide +kernel
theorem dX4_init_68 : decode cX4_init 68 = .ok (.dup, 1) := by decide +kernel
theorem dX4_init_69 : decode cX4_init 69 = .ok (.iconst 3, 1) := by decide +kernel
theorem dX4_init_70 : decode cX4_init 70 = .ok (.iconst (-1), 1) := by decide +kernel
theorem dX4_init_71 : decode cX4_init 71 = .ok (.iastore, 1) := by decide +kernel
theorem dX4_init_72 : decode cX4_init 72 = .ok (.putfield 28, 3) := by decide +kernel
theorem dX4_init_75 : decode cX4_init 75 = .ok (.aload_n 0, 1) := by decide +kernel
theorem dX4_init_76 : decode cX4_init 76 = .ok (.iconst 4, 1) := by decide +kernel
theorem dX4_init_77 : decode cX4_init 77 = .ok (.newarray .int, 2) := by decide +kernel
theorem dX4_init_79 : decode cX4_init 79 = .ok (.putfield 31, 3) := by decide +kernel
theorem dX4_init_82 : decode cX4_init 82 = .ok (.aload_n 0, 1) := by decide +kernel
theorem dX4_init_83 : decode cX4_init 83 = .ok (.sipush 160, 3) := by decide +kernel
theorem dX4_init_86 : decode cX4_init 86 = .ok (.newarray .int, 2) := by decide +kernel
theorem dX4_init_88 : decode cX4_init 88 = .ok (.putfield 34, 3) := by decide +kernel
theorem dX4_init_91 : decode cX4_init 91 = .ok (.aload_n 0, 1) := by decide +kernel
theorem dX4_init_92 : decode cX4_init 92 = .ok (.bipush 8, 2) := by decide +kernel
theorem dX4_init_94 : decode cX4_init 94 = .ok (.newarray .int, 2) := by decide +kernel
theorem dX4_init_96 : decode cX4_init 96 = .ok (.putfield 37, 3) := by decide +kernel
theorem dX4_init_99 : decode cX4_init 99 = .ok (.aload_n 0, 1) := by decide +kernel
theorem dX4_init_100 : decode cX4_init 100 = .ok (.getfield 7, 3) := by decide +kernel
theorem dX4_init_103 : decode cX4_init 103 = .ok (.iconst 2, 1) := by decide +kernel
theorem dX4_init_104 : decode cX4_init 104 = .ok (.iconst 1, 1) := by decide +kernel
theorem dX4_init_105 : decode cX4_init 105 = .ok (.iastore, 1) := by decide +kernel
theorem dX4_init_106 : decode cX4_init 106 = .ok (.iconst 0, 1) := by decide +kernel
theorem dX4_init_107 : decode cX4_init 107 = .ok (.istore_n 1, 1) := by decide +kernel
theorem dX4_init_108 : decode cX4_init 108 = .ok (.iload_n 1, 1) := by decide +kernel
theorem dX4_init_109 : decode cX4_init 109 = .ok (.bipush 10, 2) := by decide +kernel
theorem dX4_init_111 : decode cX4_init 111 = .ok (.if_icmp .ge 19, 3) := by decide +kernel
theorem dX4_init_114 : decode cX4_init 114 = .ok (.aload_n 0, 1) := by decide +kernel
theorem dX4_init_115 : decode cX4_init 115 = .ok (.getfield 7, 3) := by decide +kernel
theorem dX4_init_118 : decode cX4_init 118 = .ok (.bipush 61, 2) := by decide +kernel
theorem dX4_init_120 : decode cX4_init 120 = .ok (.iload_n 1, 1) := by decide +kernel
theorem dX4_init_121 : decode cX4_init 121 = .ok (.iadd, 1) := by decide +kernel
theorem dX4_init_122 : decode cX4_init 122 = .ok (.iconst (-1), 1) := by decide +kernel
theorem dX4_init_123 : decode cX4_init 123 = .ok (.iastore, 1) := by decide +kernel
theorem dX4_init_124 : decode cX4_init 124 = .ok (.iinc 1 1, 3) := by decide +kernel
theorem dX4_init_127 : decode cX4_init 127 = .ok (.goto (-19), 3) := by decide +kernel
theorem dX4_init_130 : decode cX4_init 130 = .ok (.return_, 1) := by decide +kernel
theorem dX4_isIn_0 : decode cX4_isIn 0 = .ok (.lload_n 0, 1) := by decide +kernel
theorem dX4_isIn_1 : decode cX4_isIn 1 = .ok (.lload_n 2, 1) := by decide +kernel
theorem dX4_isIn_2 : decode cX4_isIn 2 = .ok (.lcmp, 1) := by decide +kernel
theorem dX4_isIn_3 : decode cX4_isIn 3 = .ok (.ifCond .lt 14, 3) := by decide +kernel
theorem dX4_isIn_6 : decode cX4_isIn 6 = .ok (.lload_n 0, 1) := by decide +kernel
theorem dX4_isIn_7 : decode cX4_isIn 7 = .ok (.lload 4, 2) := by decide +kernel
theorem dX4_isIn_9 : decode cX4_isIn 9 = .ok (.lcmp, 1) := by decide +kernel
theorem dX4_isIn_10 : decode cX4_isIn 10 = .ok (.ifCond .gt 7, 3) := by decide +kernel
theorem dX4_isIn_13 : decode cX4_isIn 13 = .ok (.iconst 1, 1) := by decide +kernel
theorem dX4_isIn_14 : decode cX4_isIn 14 = .ok (.goto 4, 3) := by decide +kernel
theorem dX4_isIn_17 : decode cX4_isIn 17 = .ok (.iconst 0, 1) := by decide +kernel
theorem dX4_isIn_18 : decode cX4_isIn 18 = .ok (.ireturn, 1) := by decide +kernel
theorem dX4_finds_0 : decode cX4_finds 0 = .ok (.aload_n 0, 1) := by decide +kernel
theorem dX4_finds_1 : decode cX4_finds 1 = .ok (.getfield 22, 3) := by decide +kernel
theorem dX4_finds_4 : decode cX4_finds 4 = .ok (.iconst 0, 1) := by decide +kernel
theorem dX4_finds_5 : decode cX4_finds 5 = .ok (.dup2, 1) := by decide +kernel
theorem dX4_finds_6 : decode cX4_finds 6 = .ok (.iaload, 1) := by decide +kernel
theorem dX4_finds_7 : decode cX4_finds 7 = .ok (.iconst 1, 1) := by decide +kernel
theorem dX4_finds_8 : decode cX4_finds 8 = .ok (.iadd, 1) := by decide +kernel
theorem dX4_finds_9 : decode cX4_finds 9 = .ok (.iastore, 1) := by decide +kernel
theorem dX4_finds_10 : decode cX4_finds 10 = .ok (.aload_n 0, 1) := by decide +kernel
theorem dX4_finds_11 : decode cX4_finds 11 = .ok (.getfield 22, 3) := by decide +kernel
theorem dX4_finds_14 : decode cX4_finds 14 = .ok (.ldc 40, 2) := by decide +kernel
theorem dX4_finds_16 : decode cX4_finds 16 = .ok (.iload_n 1, 1) := by decide +kernel
theorem dX4_finds_17 : decode cX4_finds 17 = .ok (.isub, 1) := by decide +kernel
theorem dX4_finds_18 : decode cX4_finds 18 = .ok (.iconst 1, 1) := by decide +kernel
theorem dX4_finds_19 : decode cX4_finds 19 = .ok (.iadd, 1) := by decide +kernel
theorem dX4_finds_20 : decode cX4_finds 20 = .ok (.dup2, 1) := by decide +kernel
theorem dX4_finds_21 : decode cX4_finds 21 = .ok (.iaload, 1) := by decide +kernel
theorem dX4_finds_22 : decode cX4_finds 22 = .ok (.iconst 1, 1) := by decide +kernel
theorem dX4_finds_23 : decode cX4_finds 23 = .ok (.iadd, 1) := by decide +kernel
theorem dX4_finds_24 : decode cX4_finds 24 = .ok (.iastore, 1) := by decide +kernel
theorem dX4_finds_25 : decode cX4_finds 25 = .ok (.iload_n 1, 1) := by decide +kernel
theorem dX4_finds_26 : decode cX4_finds 26 = .ok (.ireturn, 1) := by decide +kernel
theorem dX4_becomes_0 : decode cX4_becomes 0 = .ok (.aload_n 0, 1) := by decide +kernel
theorem dX4_becomes_1 : decode cX4_becomes 1 = .ok (.getfield 7, 3) := by decide +kernel
theorem dX4_becomes_4 : decode cX4_becomes 4 = .ok (.iload_n 1, 1) := by decide +kernel
theorem dX4_becomes_5 : decode cX4_becomes 5 = .ok (.iaload, 1) := by decide +kernel
theorem dX4_becomes_6 : decode cX4_becomes 6 = .ok (.istore_n 3, 1) := by decide +kernel
theorem dX4_becomes_7 : decode cX4_becomes 7 = .ok (.aload_n 0, 1) := by decide +kernel
theorem dX4_becomes_8 : decode cX4_becomes 8 = .ok (.getfield 7, 3) := by decide +kernel
theorem dX4_becomes_11 : decode cX4_becomes 11 = .ok (.iload_n 1, 1) := by decide +kernel
theorem dX4_becomes_12 : decode cX4_becomes 12 = .ok (.iload_n 2, 1) := by decide +kernel
theorem dX4_becomes_13 : decode cX4_becomes 13 = .ok (.iastore, 1) := by decide +kernel
theorem dX4_becomes_14 : decode cX4_becomes 14 = .ok (.iload_n 3, 1) := by decide +kernel
theorem dX4_becomes_15 : decode cX4_becomes 15 = .ok (.ireturn, 1) := by decide +kernel
theorem dX4_copyRow_0 : decode cX4_copyRow 0 = .ok (.iconst 0, 1) := by decide +kernel
theorem dX4_copyRow_1 : decode cX4_copyRow 1 = .ok (.istore_n 2, 1) := by decide +kernel
theorem dX4_copyRow_2 : decode cX4_copyRow 2 = .ok (.iload_n 2, 1) := by decide +kernel
theorem dX4_copyRow_3 : decode cX4_copyRow 3 = .ok (.bipush 71, 2) := by decide +kernel
theorem dX4_copyRow_5 : decode cX4_copyRow 5 = .ok (.if_icmp .ge 15, 3) := by decide +kernel
theorem dX4_copyRow_8 : decode cX4_copyRow 8 = .ok (.aload_n 1, 1) := by decide +kernel
theorem dX4_copyRow_9 : decode cX4_copyRow 9 = .ok (.iload_n 2, 1) := by decide +kernel
theorem dX4_copyRow_10 : decode cX4_copyRow 10 = .ok (.aload_n 0, 1) := by decide +kernel
theorem dX4_copyRow_11 : decode cX4_copyRow 11 = .ok (.iload_n 2, 1) := by decide +kernel
theorem dX4_copyRow_12 : decode cX4_copyRow 12 = .ok (.iaload, 1) := by decide +kernel
theorem dX4_copyRow_13 : decode cX4_copyRow 13 = .ok (.iastore, 1) := by decide +kernel
theorem dX4_copyRow_14 : decode cX4_copyRow 14 = .ok (.iinc 2 1, 3) := by decide +kernel
theorem dX4_copyRow_17 : decode cX4_copyRow 17 = .ok (.goto (-15), 3) := by decide +kernel
theorem dX4_copyRow_20 : decode cX4_copyRow 20 = .ok (.return_, 1) := by decide +kernel
theorem dX4_isField_0 : decode cX4_isField 0 = .ok (.iload_n 0, 1) := by decide +kernel
theorem dX4_isField_1 : decode cX4_isField 1 = .ok (.ifCond .lt 13, 3) := by decide +kernel
theorem dX4_isField_4 : decode cX4_isField 4 = .ok (.iload_n 0, 1) := by decide +kernel
theorem dX4_isField_5 : decode cX4_isField 5 = .ok (.bipush 9, 2) := by decide +kernel
theorem dX4_isField_7 : decode cX4_isField 7 = .ok (.if_icmp .ge 7, 3) := by decide +kernel
theorem dX4_isField_10 : decode cX4_isField 10 = .ok (.iconst 1, 1) := by decide +kernel
theorem dX4_isField_11 : decode cX4_isField 11 = .ok (.goto 4, 3) := by decide +kernel
theorem dX4_isField_14 : decode cX4_isField 14 = .ok (.iconst 0, 1) := by decide +kernel
theorem dX4_isField_15 : decode cX4_isField 15 = .ok (.ireturn, 1) := by decide +kernel
theorem dX4_isGate_0 : decode cX4_isGate 0 = .ok (.iload_n 0, 1) := by decide +kernel
theorem dX4_isGate_1 : decode cX4_isGate 1 = .ok (.ifCond .lt 13, 3) := by decide +kernel
theorem dX4_isGate_4 : decode cX4_isGate 4 = .ok (.iload_n 0, 1) := by decide +kernel
theorem dX4_isGate_5 : decode cX4_isGate 5 = .ok (.bipush 8, 2) := by decide +kernel
theorem dX4_isGate_7 : decode cX4_isGate 7 = .ok (.if_icmp .ge 7, 3) := by decide +kernel
theorem dX4_isGate_10 : decode cX4_isGate 10 = .ok (.iconst 1, 1) := by decide +kernel
theorem dX4_isGate_11 : decode cX4_isGate 11 = .ok (.goto 4, 3) := by decide +kernel
theorem dX4_isGate_14 : decode cX4_isGate 14 = .ok (.iconst 0, 1) := by decide +kernel
theorem dX4_isGate_15 : decode cX4_isGate 15 = .ok (.ireturn, 1) := by decide +kernel
theorem dX4_isStand_0 : decode cX4_isStand 0 = .ok (.iload_n 0, 1) := by decide +kernel
theorem dX4_isStand_1 : decode cX4_isStand 1 = .ok (.i2l, 1) := by decide +kernel
theorem dX4_isStand_2 : decode cX4_isStand 2 = .ok (.lconst 0, 1) := by decide +kernel
theorem dX4_isStand_3 : decode cX4_isStand 3 = .ok (.ldc2_w 41, 3) := by decide +kernel
theorem dX4_isStand_6 : decode cX4_isStand 6 = .ok (.invokestatic 43, 3) := by decide +kernel
theorem dX4_isStand_9 : decode cX4_isStand 9 = .ok (.ireturn, 1) := by decide +kernel
theorem dX4_isWalker_0 : decode cX4_isWalker 0 = .ok (.iload_n 1, 1) := by decide +kernel
theorem dX4_isWalker_1 : decode cX4_isWalker 1 = .ok (.ifCond .lt 17, 3) := by decide +kernel
theorem dX4_isWalker_4 : decode cX4_isWalker 4 = .ok (.iload_n 1, 1) := by decide +kernel
theorem dX4_isWalker_5 : decode cX4_isWalker 5 = .ok (.aload_n 0, 1) := by decide +kernel
theorem dX4_isWalker_6 : decode cX4_isWalker 6 = .ok (.getfield 7, 3) := by decide +kernel
theorem dX4_isWalker_9 : decode cX4_isWalker 9 = .ok (.iconst 0, 1) := by decide +kernel
theorem dX4_isWalker_10 : decode cX4_isWalker 10 = .ok (.iaload, 1) := by decide +kernel
theorem dX4_isWalker_11 : decode cX4_isWalker 11 = .ok (.if_icmp .ge 7, 3) := by decide +kernel
theorem dX4_isWalker_14 : decode cX4_isWalker 14 = .ok (.iconst 1, 1) := by decide +kernel
theorem dX4_isWalker_15 : decode cX4_isWalker 15 = .ok (.goto 4, 3) := by decide +kernel
theorem dX4_isWalker_18 : decode cX4_isWalker 18 = .ok (.iconst 0, 1) := by decide +kernel
theorem dX4_isWalker_19 : decode cX4_isWalker 19 = .ok (.ireturn, 1) := by decide +kernel
theorem dX4_at_0 : decode cX4_at 0 = .ok (.bipush 21, 2) := by decide +kernel
theorem dX4_at_2 : decode cX4_at 2 = .ok (.iconst 5, 1) := by decide +kernel
theorem dX4_at_3 : decode cX4_at 3 = .ok (.iload_n 0, 1) := by decide +kernel
theorem dX4_at_4 : decode cX4_at 4 = .ok (.imul, 1) := by decide +kernel
theorem dX4_at_5 : decode cX4_at 5 = .ok (.iadd, 1) := by decide +kernel
theorem dX4_at_6 : decode cX4_at 6 = .ok (.iload_n 1, 1) := by decide +kernel
theorem dX4_at_7 : decode cX4_at 7 = .ok (.iadd, 1) := by decide +kernel
theorem dX4_at_8 : decode cX4_at 8 = .ok (.ireturn, 1) := by decide +kernel
theorem dX4_its_0 : decode cX4_its 0 = .ok (.aload_n 0, 1) := by decide +kernel
theorem dX4_its_1 : decode cX4_its 1 = .ok (.getfield 7, 3) := by decide +kernel
theorem dX4_its_4 : decode cX4_its 4 = .ok (.bipush 21, 2) := by decide +kernel
theorem dX4_its_6 : decode cX4_its 6 = .ok (.iconst 5, 1) := by decide +kernel
theorem dX4_its_7 : decode cX4_its 7 = .ok (.iload_n 1, 1) := by decide +kernel
theorem dX4_its_8 : decode cX4_its 8 = .ok (.imul, 1) := by decide +kernel
theorem dX4_its_9 : decode cX4_its 9 = .ok (.iadd, 1) := by decide +kernel
theorem dX4_its_10 : decode cX4_its 10 = .ok (.iload_n 2, 1) := by decide +kernel
theorem dX4_its_11 : decode cX4_its 11 = .ok (.iadd, 1) := by decide +kernel
theorem dX4_its_12 : decode cX4_its 12 = .ok (.iaload, 1) := by decide +kernel
theorem dX4_its_13 : decode cX4_its 13 = .ok (.ireturn, 1) := by decide +kernel
theorem dX4_least_0 : decode cX4_least 0 = .ok (.iload_n 0, 1) := by decide +kernel
theorem dX4_least_1 : decode cX4_least 1 = .ok (.iload_n 1, 1) := by decide +kernel
theorem dX4_least_2 : decode cX4_least 2 = .ok (.if_icmp .ge 7, 3) := by decide +kernel
theorem dX4_least_5 : decode cX4_least 5 = .ok (.iload_n 0, 1) := by decide +kernel
theorem dX4_least_6 : decode cX4_least 6 = .ok (.goto 4, 3) := by decide +kernel
theorem dX4_least_9 : decode cX4_least 9 = .ok (.iload_n 1, 1) := by decide +kernel
theorem dX4_least_10 : decode cX4_least 10 = .ok (.ireturn, 1) := by decide +kernel
theorem dX4_orNone_0 : decode cX4_orNone 0 = .ok (.iload_n 1, 1) := by decide +kernel
theorem dX4_orNone_1 : decode cX4_orNone 1 = .ok (.ifCond .ge 12, 3) := by decide +kernel
theorem dX4_orNone_4 : decode cX4_orNone 4 = .ok (.aload_n 0, 1) := by decide +kernel
theorem dX4_orNone_5 : decode cX4_orNone 5 = .ok (.ldc 47, 2) := by decide +kernel
theorem dX4_orNone_7 : decode cX4_orNone 7 = .ok (.invokevirtual 48, 3) := by decide +kernel
theorem dX4_orNone_10 : decode cX4_orNone 10 = .ok (.goto 4, 3) := by decide +kernel
theorem dX4_orNone_13 : decode cX4_orNone 13 = .ok (.iload_n 1, 1) := by decide +kernel
theorem dX4_orNone_14 : decode cX4_orNone 14 = .ok (.ireturn, 1) := by decide +kernel
theorem dX4_many_0 : decode cX4_many 0 = .ok (.iconst 0, 1) := by decide +kernel
theorem dX4_many_1 : decode cX4_many 1 = .ok (.istore_n 1, 1) := by decide +kernel
theorem dX4_many_2 : decode cX4_many 2 = .ok (.iload_n 0, 1) := by decide +kernel
theorem dX4_many_3 : decode cX4_many 3 = .ok (.istore_n 2, 1) := by decide +kernel
theorem dX4_many_4 : decode cX4_many 4 = .ok (.iload_n 2, 1) := by decide +kernel
theorem dX4_many_5 : decode cX4_many 5 = .ok (.ifCond .eq 15, 3) := by decide +kernel
theorem dX4_many_8 : decode cX4_many 8 = .ok (.iinc 1 1, 3) := by decide +kernel
theorem dX4_many_11 : decode cX4_many 11 = .ok (.iload_n 2, 1) := by decide +kernel
theorem dX4_many_12 : decode cX4_many 12 = .ok (.iload_n 2, 1) := by decide +kernel
theorem dX4_many_13 : decode cX4_many 13 = .ok (.iconst 1, 1) := by decide +kernel
theorem dX4_many_14 : decode cX4_many 14 = .ok (.isub, 1) := by decide +kernel
theorem dX4_many_15 : decode cX4_many 15 = .ok (.iand, 1) := by decide +kernel
theorem dX4_many_16 : decode cX4_many 16 = .ok (.istore_n 2, 1) := by decide +kernel
theorem dX4_many_17 : decode cX4_many 17 = .ok (.goto (-13), 3) := by decide +kernel
theorem dX4_many_20 : decode cX4_many 20 = .ok (.iload_n 1, 1) := by decide +kernel
theorem dX4_many_21 : decode cX4_many 21 = .ok (.ireturn, 1) := by decide +kernel
theorem dX4_beasts_0 : decode cX4_beasts 0 = .ok (.iload_n 1, 1) := by decide +kernel
theorem dX4_beasts_1 : decode cX4_beasts 1 = .ok (.invokestatic 52, 3) := by decide +kernel
theorem dX4_beasts_4 : decode cX4_beasts 4 = .ok (.ifCond .eq 26, 3) := by decide +kernel
theorem dX4_beasts_7 : decode cX4_beasts 7 = .ok (.iload_n 2, 1) := by decide +kernel
theorem dX4_beasts_8 : decode cX4_beasts 8 = .ok (.i2l, 1) := by decide +kernel
theorem dX4_beasts_9 : decode cX4_beasts 9 = .ok (.lconst 0, 1) := by decide +kernel
theorem dX4_beasts_10 : decode cX4_beasts 10 = .ok (.ldc2_w 56, 3) := by decide +kernel
theorem dX4_beasts_13 : decode cX4_beasts 13 = .ok (.invokestatic 43, 3) := by decide +kernel
theorem dX4_beasts_16 : decode cX4_beasts 16 = .ok (.ifCond .eq 14, 3) := by decide +kernel
theorem dX4_beasts_19 : decode cX4_beasts 19 = .ok (.aload_n 0, 1) := by decide +kernel
theorem dX4_beasts_20 : decode cX4_beasts 20 = .ok (.iconst 4, 1) := by decide +kernel
theorem dX4_beasts_21 : decode cX4_beasts 21 = .ok (.iload_n 1, 1) := by decide +kernel
theorem dX4_beasts_22 : decode cX4_beasts 22 = .ok (.iadd, 1) := by decide +kernel
theorem dX4_beasts_23 : decode cX4_beasts 23 = .ok (.iload_n 2, 1) := by decide +kernel
theorem dX4_beasts_24 : decode cX4_beasts 24 = .ok (.invokevirtual 58, 3) := by decide +kernel
theorem dX4_beasts_27 : decode cX4_beasts 27 = .ok (.goto 9, 3) := by decide +kernel
theorem dX4_beasts_30 : decode cX4_beasts 30 = .ok (.aload_n 0, 1) := by decide +kernel
theorem dX4_beasts_31 : decode cX4_beasts 31 = .ok (.ldc 40, 2) := by decide +kernel
theorem dX4_beasts_33 : decode cX4_beasts 33 = .ok (.invokevirtual 48, 3) := by decide +kernel
theorem dX4_beasts_36 : decode cX4_beasts 36 = .ok (.ireturn, 1) := by decide +kernel
theorem dX4_there_0 : decode cX4_there 0 = .ok (.iconst 0, 1) := by decide +kernel
theorem dX4_there_1 : decode cX4_there 1 = .ok (.istore_n 2, 1) := by decide +kernel
theorem dX4_there_2 : decode cX4_there 2 = .ok (.iconst 0, 1) := by decide +kernel
theorem dX4_there_3 : decode cX4_there 3 = .ok (.istore_n 3, 1) := by decide +kernel
theorem dX4_there_4 : decode cX4_there 4 = .ok (.iload_n 3, 1) := by decide +kernel
theorem dX4_there_5 : decode cX4_there 5 = .ok (.aload_n 0, 1) := by decide +kernel
theorem dX4_there_6 : decode cX4_there 6 = .ok (.getfield 7, 3) := by decide +kernel
theorem dX4_there_9 : decode cX4_there 9 = .ok (.iconst 0, 1) := by decide +kernel
theorem dX4_there_10 : decode cX4_there 10 = .ok (.iaload, 1) := by decide +kernel
theorem dX4_there_11 : decode cX4_there 11 = .ok (.if_icmp .ge 29, 3) := by decide +kernel
theorem dX4_there_14 : decode cX4_there 14 = .ok (.iload_n 2, 1) := by decide +kernel
theorem dX4_there_15 : decode cX4_there 15 = .ok (.aload_n 0, 1) := by decide +kernel
theorem dX4_there_16 : decode cX4_there 16 = .ok (.iload_n 3, 1) := by decide +kernel
theorem dX4_there_17 : decode cX4_there 17 = .ok (.iconst 1, 1) := by decide +kernel
theorem dX4_there_18 : decode cX4_there 18 = .ok (.invokevirtual 62, 3) := by decide +kernel
theorem dX4_there_21 : decode cX4_there 21 = .ok (.iload_n 1, 1) := by decide +kernel
theorem dX4_there_22 : decode cX4_there 22 = .ok (.if_icmp .ne 9, 3) := by decide +kernel
theorem dX4_there_25 : decode cX4_there 25 = .ok (.iconst 1, 1) := by decide +kernel
theorem dX4_there_26 : decode cX4_there 26 = .ok (.iload_n 3, 1) := by decide +kernel
theorem dX4_there_27 : decode cX4_there 27 = .ok (.ishl, 1) := by decide +kernel
theorem dX4_there_28 : decode cX4_there 28 = .ok (.goto 4, 3) := by decide +kernel
theorem dX4_there_31 : decode cX4_there 31 = .ok (.iconst 0, 1) := by decide +kernel
theorem dX4_there_32 : decode cX4_there 32 = .ok (.ior, 1) := by decide +kernel
theorem dX4_there_33 : decode cX4_there 33 = .ok (.istore_n 2, 1) := by decide +kernel
theorem dX4_there_34 : decode cX4_there 34 = .ok (.iinc 3 1, 3) := by decide +kernel
theorem dX4_there_37 : decode cX4_there 37 = .ok (.goto (-33), 3) := by decide +kernel
theorem dX4_there_40 : decode cX4_there 40 = .ok (.iload_n 2, 1) := by decide +kernel
theorem dX4_there_41 : decode cX4_there 41 = .ok (.ireturn, 1) := by decide +kernel
theorem dX4_field_0 : decode cX4_field 0 = .ok (.iload_n 1, 1) := by decide +kernel
theorem dX4_field_1 : decode cX4_field 1 = .ok (.invokestatic 52, 3) := by decide +kernel
theorem dX4_field_4 : decode cX4_field 4 = .ok (.ifCond .eq 13, 3) := by decide +kernel
theorem dX4_field_7 : decode cX4_field 7 = .ok (.iload_n 2, 1) := by decide +kernel
theorem dX4_field_8 : decode cX4_field 8 = .ok (.i2l, 1) := by decide +kernel
theorem dX4_field_9 : decode cX4_field 9 = .ok (.lconst 0, 1) := by decide +kernel
theorem dX4_field_10 : decode cX4_field 10 = .ok (.lconst 1, 1) := by decide +kernel
theorem dX4_field_11 : decode cX4_field 11 = .ok (.invokestatic 43, 3) := by decide +kernel
theorem dX4_field_14 : decode cX4_field 14 = .ok (.ifCond .ne 10, 3) := by decide +kernel
theorem dX4_field_17 : decode cX4_field 17 = .ok (.aload_n 0, 1) := by decide +kernel
theorem dX4_field_18 : decode cX4_field 18 = .ok (.ldc 40, 2) := by decide +kernel
theorem dX4_field_20 : decode cX4_field 20 = .ok (.invokevirtual 48, 3) := by decide +kernel
theorem dX4_field_23 : decode cX4_field 23 = .ok (.ireturn, 1) := by decide +kernel
theorem dX4_field_24 : decode cX4_field 24 = .ok (.iload_n 2, 1) := by decide +kernel
theorem dX4_field_25 : decode cX4_field 25 = .ok (.ifCond .ne 14, 3) := by decide +kernel
theorem dX4_field_28 : decode cX4_field 28 = .ok (.aload_n 0, 1) := by decide +kernel
theorem dX4_field_29 : decode cX4_field 29 = .ok (.getfield 7, 3) := by decide +kernel
theorem dX4_field_32 : decode cX4_field 32 = .ok (.iconst 4, 1) := by decide +kernel
theorem dX4_field_33 : decode cX4_field 33 = .ok (.iload_n 1, 1) := by decide +kernel
theorem dX4_field_34 : decode cX4_field 34 = .ok (.iadd, 1) := by decide +kernel
theorem dX4_field_35 : decode cX4_field 35 = .ok (.iaload, 1) := by decide +kernel
theorem dX4_field_36 : decode cX4_field 36 = .ok (.goto 8, 3) := by decide +kernel
theorem dX4_field_39 : decode cX4_field 39 = .ok (.aload_n 0, 1) := by decide +kernel
theorem dX4_field_40 : decode cX4_field 40 = .ok (.iload_n 1, 1) := by decide +kernel
theorem dX4_field_41 : decode cX4_field 41 = .ok (.invokevirtual 65, 3) := by decide +kernel
theorem dX4_field_44 : decode cX4_field 44 = .ok (.ireturn, 1) := by decide +kernel
theorem dX4_gate_0 : decode cX4_gate 0 = .ok (.iload_n 1, 1) := by decide +kernel
theorem dX4_gate_1 : decode cX4_gate 1 = .ok (.invokestatic 68, 3) := by decide +kernel
theorem dX4_gate_4 : decode cX4_gate 4 = .ok (.ifCond .eq 22, 3) := by decide +kernel
theorem dX4_gate_7 : decode cX4_gate 7 = .ok (.iload_n 2, 1) := by decide +kernel
theorem dX4_gate_8 : decode cX4_gate 8 = .ok (.invokestatic 71, 3) := by decide +kernel
theorem dX4_gate_11 : decode cX4_gate 11 = .ok (.ifCond .eq 15, 3) := by decide +kernel
theorem dX4_gate_14 : decode cX4_gate 14 = .ok (.aload_n 0, 1) := by decide +kernel
theorem dX4_gate_15 : decode cX4_gate 15 = .ok (.bipush 13, 2) := by decide +kernel
theorem dX4_gate_17 : decode cX4_gate 17 = .ok (.iload_n 1, 1) := by decide +kernel
theorem dX4_gate_18 : decode cX4_gate 18 = .ok (.iadd, 1) := by decide +kernel
theorem dX4_gate_19 : decode cX4_gate 19 = .ok (.iload_n 2, 1) := by decide +kernel
theorem dX4_gate_20 : decode cX4_gate 20 = .ok (.invokevirtual 58, 3) := by decide +kernel
theorem dX4_gate_23 : decode cX4_gate 23 = .ok (.goto 9, 3) := by decide +kernel
theorem dX4_gate_26 : decode cX4_gate 26 = .ok (.aload_n 0, 1) := by decide +kernel
theorem dX4_gate_27 : decode cX4_gate 27 = .ok (.ldc 40, 2) := by decide +kernel
theorem dX4_gate_29 : decode cX4_gate 29 = .ok (.invokevirtual 48, 3) := by decide +kernel
theorem dX4_gate_32 : decode cX4_gate 32 = .ok (.ireturn, 1) := by decide +kernel
theorem dX4_stands_0 : decode cX4_stands 0 = .ok (.iload_n 1, 1) := by decide +kernel
theorem dX4_stands_1 : decode cX4_stands 1 = .ok (.invokestatic 68, 3) := by decide +kernel
theorem dX4_stands_4 : decode cX4_stands 4 = .ok (.ifCond .eq 15, 3) := by decide +kernel
theorem dX4_stands_7 : decode cX4_stands 7 = .ok (.aload_n 0, 1) := by decide +kernel
theorem dX4_stands_8 : decode cX4_stands 8 = .ok (.getfield 7, 3) := by decide +kernel
theorem dX4_stands_11 : decode cX4_stands 11 = .ok (.bipush 13, 2) := by decide +kernel
theorem dX4_stands_13 : decode cX4_stands 13 = .ok (.iload_n 1, 1) := by decide +kernel
theorem dX4_stands_14 : decode cX4_stands 14 = .ok (.iadd, 1) := by decide +kernel
theorem dX4_stands_15 : decode cX4_stands 15 = .ok (.iaload, 1) := by decide +kernel
theorem dX4_stands_16 : decode cX4_stands 16 = .ok (.goto 9, 3) := by decide +kernel
theorem dX4_stands_19 : decode cX4_stands 19 = .ok (.aload_n 0, 1) := by decide +kernel
theorem dX4_stands_20 : decode cX4_stands 20 = .ok (.ldc 40, 2) := by decide +kernel
theorem dX4_stands_22 : decode cX4_stands 22 = .ok (.invokevirtual 48, 3) := by decide +kernel
theorem dX4_stands_25 : decode cX4_stands 25 = .ok (.ireturn, 1) := by decide +kernel
theorem dX4_wind_0 : decode cX4_wind 0 = .ok (.iload_n 1, 1) := by decide +kernel
theorem dX4_wind_1 : decode cX4_wind 1 = .ok (.i2l, 1) := by decide +kernel
theorem dX4_wind_2 : decode cX4_wind 2 = .ok (.lconst 0, 1) := by decide +kernel
theorem dX4_wind_3 : decode cX4_wind 3 = .ok (.ldc2_w 74, 3) := by decide +kernel
theorem dX4_wind_6 : decode cX4_wind 6 = .ok (.invokestatic 43, 3) := by decide +kernel
theorem dX4_wind_9 : decode cX4_wind 9 = .ok (.ifCond .eq 12, 3) := by decide +kernel
theorem dX4_wind_12 : decode cX4_wind 12 = .ok (.aload_n 0, 1) := by decide +kernel
theorem dX4_wind_13 : decode cX4_wind 13 = .ok (.iconst 3, 1) := by decide +kernel
theorem dX4_wind_14 : decode cX4_wind 14 = .ok (.iload_n 1, 1) := by decide +kernel
theorem dX4_wind_15 : decode cX4_wind 15 = .ok (.invokevirtual 58, 3) := by decide +kernel
theorem dX4_wind_18 : decode cX4_wind 18 = .ok (.goto 9, 3) := by decide +kernel
theorem dX4_wind_21 : decode cX4_wind 21 = .ok (.aload_n 0, 1) := by decide +kernel
theorem dX4_wind_22 : decode cX4_wind 22 = .ok (.ldc 40, 2) := by decide +kernel
theorem dX4_wind_24 : decode cX4_wind 24 = .ok (.invokevirtual 48, 3) := by decide +kernel
theorem dX4_wind_27 : decode cX4_wind 27 = .ok (.ireturn, 1) := by decide +kernel
theorem dX4_comes_0 : decode cX4_comes 0 = .ok (.aload_n 0, 1) := by decide +kernel
theorem dX4_comes_1 : decode cX4_comes 1 = .ok (.getfield 7, 3) := by decide +kernel
theorem dX4_comes_4 : decode cX4_comes 4 = .ok (.aload_n 0, 1) := by decide +kernel
theorem dX4_comes_5 : decode cX4_comes 5 = .ok (.getfield 7, 3) := by decide +kernel
theorem dX4_comes_8 : decode cX4_comes 8 = .ok (.iconst 0, 1) := by decide +kernel
theorem dX4_comes_9 : decode cX4_comes 9 = .ok (.iaload, 1) := by decide +kernel
theorem dX4_comes_10 : decode cX4_comes 10 = .ok (.iconst 0, 1) := by decide +kernel
theorem dX4_comes_11 : decode cX4_comes 11 = .ok (.invokestatic 76, 3) := by decide +kernel
theorem dX4_comes_14 : decode cX4_comes 14 = .ok (.iload_n 1, 1) := by decide +kernel
theorem dX4_comes_15 : decode cX4_comes 15 = .ok (.iastore, 1) := by decide +kernel
theorem dX4_comes_16 : decode cX4_comes 16 = .ok (.aload_n 0, 1) := by decide +kernel
theorem dX4_comes_17 : decode cX4_comes 17 = .ok (.getfield 7, 3) := by decide +kernel
theorem dX4_comes_20 : decode cX4_comes 20 = .ok (.aload_n 0, 1) := by decide +kernel
theorem dX4_comes_21 : decode cX4_comes 21 = .ok (.getfield 7, 3) := by decide +kernel
theorem dX4_comes_24 : decode cX4_comes 24 = .ok (.iconst 0, 1) := by decide +kernel
theorem dX4_comes_25 : decode cX4_comes 25 = .ok (.iaload, 1) := by decide +kernel
theorem dX4_comes_26 : decode cX4_comes 26 = .ok (.iconst 1, 1) := by decide +kernel
theorem dX4_comes_27 : decode cX4_comes 27 = .ok (.invokestatic 76, 3) := by decide +kernel
theorem dX4_comes_30 : decode cX4_comes 30 = .ok (.iload_n 2, 1) := by decide +kernel
theorem dX4_comes_31 : decode cX4_comes 31 = .ok (.iastore, 1) := by decide +kernel
theorem dX4_comes_32 : decode cX4_comes 32 = .ok (.aload_n 0, 1) := by decide +kernel
theorem dX4_comes_33 : decode cX4_comes 33 = .ok (.getfield 7, 3) := by decide +kernel
theorem dX4_comes_36 : decode cX4_comes 36 = .ok (.aload_n 0, 1) := by decide +kernel
theorem dX4_comes_37 : decode cX4_comes 37 = .ok (.getfield 7, 3) := by decide +kernel
theorem dX4_comes_40 : decode cX4_comes 40 = .ok (.iconst 0, 1) := by decide +kernel
theorem dX4_comes_41 : decode cX4_comes 41 = .ok (.iaload, 1) := by decide +kernel
theorem dX4_comes_42 : decode cX4_comes 42 = .ok (.iconst 2, 1) := by decide +kernel
theorem dX4_comes_43 : decode cX4_comes 43 = .ok (.invokestatic 76, 3) := by decide +kernel
theorem dX4_comes_46 : decode cX4_comes 46 = .ok (.iconst 0, 1) := by decide +kernel
theorem dX4_comes_47 : decode cX4_comes 47 = .ok (.iastore, 1) := by decide +kernel
theorem dX4_comes_48 : decode cX4_comes 48 = .ok (.aload_n 0, 1) := by decide +kernel
theorem dX4_comes_49 : decode cX4_comes 49 = .ok (.getfield 7, 3) := by decide +kernel
theorem dX4_comes_52 : decode cX4_comes 52 = .ok (.aload_n 0, 1) := by decide +kernel
theorem dX4_comes_53 : decode cX4_comes 53 = .ok (.getfield 7, 3) := by decide +kernel
theorem dX4_comes_56 : decode cX4_comes 56 = .ok (.iconst 0, 1) := by decide +kernel
theorem dX4_comes_57 : decode cX4_comes 57 = .ok (.iaload, 1) := by decide +kernel
theorem dX4_comes_58 : decode cX4_comes 58 = .ok (.iconst 3, 1) := by decide +kernel
theorem dX4_comes_59 : decode cX4_comes 59 = .ok (.invokestatic 76, 3) := by decide +kernel
theorem dX4_comes_62 : decode cX4_comes 62 = .ok (.iconst 3, 1) := by decide +kernel
theorem dX4_comes_63 : decode cX4_comes 63 = .ok (.iastore, 1) := by decide +kernel
theorem dX4_comes_64 : decode cX4_comes 64 = .ok (.aload_n 0, 1) := by decide +kernel
theorem dX4_comes_65 : decode cX4_comes 65 = .ok (.getfield 7, 3) := by decide +kernel
theorem dX4_comes_68 : decode cX4_comes 68 = .ok (.aload_n 0, 1) := by decide +kernel
theorem dX4_comes_69 : decode cX4_comes 69 = .ok (.getfield 7, 3) := by decide +kernel
theorem dX4_comes_72 : decode cX4_comes 72 = .ok (.iconst 0, 1) := by decide +kernel
theorem dX4_comes_73 : decode cX4_comes 73 = .ok (.iaload, 1) := by decide +kernel
theorem dX4_comes_74 : decode cX4_comes 74 = .ok (.iconst 4, 1) := by decide +kernel
theorem dX4_comes_75 : decode cX4_comes 75 = .ok (.invokestatic 76, 3) := by decide +kernel
theorem dX4_comes_78 : decode cX4_comes 78 = .ok (.iconst 0, 1) := by decide +kernel
theorem dX4_comes_79 : decode cX4_comes 79 = .ok (.iastore, 1) := by decide +kernel
theorem dX4_comes_80 : decode cX4_comes 80 = .ok (.aload_n 0, 1) := by decide +kernel
theorem dX4_comes_81 : decode cX4_comes 81 = .ok (.getfield 7, 3) := by decide +kernel
theorem dX4_comes_84 : decode cX4_comes 84 = .ok (.iconst 0, 1) := by decide +kernel
theorem dX4_comes_85 : decode cX4_comes 85 = .ok (.dup2, 1) := by decide +kernel
theorem dX4_comes_86 : decode cX4_comes 86 = .ok (.iaload, 1) := by decide +kernel
theorem dX4_comes_87 : decode cX4_comes 87 = .ok (.iconst 1, 1) := by decide +kernel
theorem dX4_comes_88 : decode cX4_comes 88 = .ok (.iadd, 1) := by decide +kernel
theorem dX4_comes_89 : decode cX4_comes 89 = .ok (.iastore, 1) := by decide +kernel
theorem dX4_comes_90 : decode cX4_comes 90 = .ok (.return_, 1) := by decide +kernel
theorem dX4_walker_0 : decode cX4_walker 0 = .ok (.iload_n 1, 1) := by decide +kernel
theorem dX4_walker_1 : decode cX4_walker 1 = .ok (.i2l, 1) := by decide +kernel
theorem dX4_walker_2 : decode cX4_walker 2 = .ok (.lconst 0, 1) := by decide +kernel
theorem dX4_walker_3 : decode cX4_walker 3 = .ok (.ldc2_w 79, 3) := by decide +kernel
theorem dX4_walker_6 : decode cX4_walker 6 = .ok (.invokestatic 43, 3) := by decide +kernel
theorem dX4_walker_9 : decode cX4_walker 9 = .ok (.ifCond .eq 10, 3) := by decide +kernel
theorem dX4_walker_12 : decode cX4_walker 12 = .ok (.iload_n 2, 1) := by decide +kernel
theorem dX4_walker_13 : decode cX4_walker 13 = .ok (.invokestatic 52, 3) := by decide +kernel
theorem dX4_walker_16 : decode cX4_walker 16 = .ok (.ifCond .ne 10, 3) := by decide +kernel
theorem dX4_walker_19 : decode cX4_walker 19 = .ok (.aload_n 0, 1) := by decide +kernel
theorem dX4_walker_20 : decode cX4_walker 20 = .ok (.ldc 40, 2) := by decide +kernel
theorem dX4_walker_22 : decode cX4_walker 22 = .ok (.invokevirtual 48, 3) := by decide +kernel
theorem dX4_walker_25 : decode cX4_walker 25 = .ok (.ireturn, 1) := by decide +kernel
theorem dX4_walker_26 : decode cX4_walker 26 = .ok (.aload_n 0, 1) := by decide +kernel
theorem dX4_walker_27 : decode cX4_walker 27 = .ok (.getfield 7, 3) := by decide +kernel
theorem dX4_walker_30 : decode cX4_walker 30 = .ok (.iconst 0, 1) := by decide +kernel
theorem dX4_walker_31 : decode cX4_walker 31 = .ok (.iaload, 1) := by decide +kernel
theorem dX4_walker_32 : decode cX4_walker 32 = .ok (.bipush 8, 2) := by decide +kernel
theorem dX4_walker_34 : decode cX4_walker 34 = .ok (.if_icmp .ne 10, 3) := by decide +kernel
theorem dX4_walker_37 : decode cX4_walker 37 = .ok (.aload_n 0, 1) := by decide +kernel
theorem dX4_walker_38 : decode cX4_walker 38 = .ok (.ldc 81, 2) := by decide +kernel
theorem dX4_walker_40 : decode cX4_walker 40 = .ok (.invokevirtual 48, 3) := by decide +kernel
theorem dX4_walker_43 : decode cX4_walker 43 = .ok (.ireturn, 1) := by decide +kernel
theorem dX4_walker_44 : decode cX4_walker 44 = .ok (.aload_n 0, 1) := by decide +kernel
theorem dX4_walker_45 : decode cX4_walker 45 = .ok (.iload_n 1, 1) := by decide +kernel
theorem dX4_walker_46 : decode cX4_walker 46 = .ok (.iload_n 2, 1) := by decide +kernel
theorem dX4_walker_47 : decode cX4_walker 47 = .ok (.invokevirtual 82, 3) := by decide +kernel
theorem dX4_walker_50 : decode cX4_walker 50 = .ok (.aload_n 0, 1) := by decide +kernel
theorem dX4_walker_51 : decode cX4_walker 51 = .ok (.getfield 7, 3) := by decide +kernel
theorem dX4_walker_54 : decode cX4_walker 54 = .ok (.iconst 0, 1) := by decide +kernel
theorem dX4_walker_55 : decode cX4_walker 55 = .ok (.iaload, 1) := by decide +kernel
theorem dX4_walker_56 : decode cX4_walker 56 = .ok (.iconst 1, 1) := by decide +kernel
theorem dX4_walker_57 : decode cX4_walker 57 = .ok (.isub, 1) := by decide +kernel
theorem dX4_walker_58 : decode cX4_walker 58 = .ok (.ireturn, 1) := by decide +kernel
theorem dX4_leavesIt_0 : decode cX4_leavesIt 0 = .ok (.aload_n 0, 1) := by decide +kernel
theorem dX4_leavesIt_1 : decode cX4_leavesIt 1 = .ok (.getfield 7, 3) := by decide +kernel
theorem dX4_leavesIt_4 : decode cX4_leavesIt 4 = .ok (.iconst 3, 1) := by decide +kernel
theorem dX4_leavesIt_5 : decode cX4_leavesIt 5 = .ok (.iaload, 1) := by decide +kernel
theorem dX4_leavesIt_6 : decode cX4_leavesIt 6 = .ok (.iconst 5, 1) := by decide +kernel
theorem dX4_leavesIt_7 : decode cX4_leavesIt 7 = .ok (.if_icmp .lt 7, 3) := by decide +kernel
theorem dX4_leavesIt_10 : decode cX4_leavesIt 10 = .ok (.iconst 0, 1) := by decide +kernel
theorem dX4_leavesIt_11 : decode cX4_leavesIt 11 = .ok (.goto 4, 3) := by decide +kernel
theorem dX4_leavesIt_14 : decode cX4_leavesIt 14 = .ok (.iload_n 2, 1) := by decide +kernel
theorem dX4_leavesIt_15 : decode cX4_leavesIt 15 = .ok (.istore_n 3, 1) := by decide +kernel
theorem dX4_leavesIt_16 : decode cX4_leavesIt 16 = .ok (.iload_n 3, 1) := by decide +kernel
theorem dX4_leavesIt_17 : decode cX4_leavesIt 17 = .ok (.iconst 1, 1) := by decide +kernel
theorem dX4_leavesIt_18 : decode cX4_leavesIt 18 = .ok (.if_icmp .ne 7, 3) := by decide +kernel
theorem dX4_leavesIt_21 : decode cX4_leavesIt 21 = .ok (.iconst 2, 1) := by decide +kernel
theorem dX4_leavesIt_22 : decode cX4_leavesIt 22 = .ok (.goto 4, 3) := by decide +kernel
theorem dX4_leavesIt_25 : decode cX4_leavesIt 25 = .ok (.iload_n 3, 1) := by decide +kernel
theorem dX4_leavesIt_26 : decode cX4_leavesIt 26 = .ok (.istore 4, 2) := by decide +kernel
theorem dX4_leavesIt_28 : decode cX4_leavesIt 28 = .ok (.iload 4, 2) := by decide +kernel
theorem dX4_leavesIt_30 : decode cX4_leavesIt 30 = .ok (.aload_n 0, 1) := by decide +kernel
theorem dX4_leavesIt_31 : decode cX4_leavesIt 31 = .ok (.iload_n 1, 1) := by decide +kernel
theorem dX4_leavesIt_32 : decode cX4_leavesIt 32 = .ok (.iconst 3, 1) := by decide +kernel
theorem dX4_leavesIt_33 : decode cX4_leavesIt 33 = .ok (.invokevirtual 62, 3) := by decide +kernel
theorem dX4_leavesIt_36 : decode cX4_leavesIt 36 = .ok (.iadd, 1) := by decide +kernel
theorem dX4_leavesIt_37 : decode cX4_leavesIt 37 = .ok (.iconst 4, 1) := by decide +kernel
theorem dX4_leavesIt_38 : decode cX4_leavesIt 38 = .ok (.irem, 1) := by decide +kernel
theorem dX4_leavesIt_39 : decode cX4_leavesIt 39 = .ok (.istore 5, 2) := by decide +kernel
theorem dX4_leavesIt_41 : decode cX4_leavesIt 41 = .ok (.aload_n 0, 1) := by decide +kernel
theorem dX4_leavesIt_42 : decode cX4_leavesIt 42 = .ok (.iload_n 1, 1) := by decide +kernel
theorem dX4_leavesIt_43 : decode cX4_leavesIt 43 = .ok (.iconst 0, 1) := by decide +kernel
theorem dX4_leavesIt_44 : decode cX4_leavesIt 44 = .ok (.invokevirtual 62, 3) := by decide +kernel
theorem dX4_leavesIt_47 : decode cX4_leavesIt 47 = .ok (.tableswitch 62 1 6 #[37, 39, 42, 45, 50, 52], 37) := by decide +kernel
theorem dX4_leavesIt_84 : decode cX4_leavesIt 84 = .ok (.iconst 3, 1) := by decide +kernel
theorem dX4_leavesIt_85 : decode cX4_leavesIt 85 = .ok (.ireturn, 1) := by decide +kernel
theorem dX4_leavesIt_86 : decode cX4_leavesIt 86 = .ok (.iload 4, 2) := by decide +kernel
theorem dX4_leavesIt_88 : decode cX4_leavesIt 88 = .ok (.ireturn, 1) := by decide +kernel
theorem dX4_leavesIt_89 : decode cX4_leavesIt 89 = .ok (.iload 5, 2) := by decide +kernel
theorem dX4_leavesIt_91 : decode cX4_leavesIt 91 = .ok (.ireturn, 1) := by decide +kernel
theorem dX4_leavesIt_92 : decode cX4_leavesIt 92 = .ok (.iconst 3, 1) := by decide +kernel
theorem dX4_leavesIt_93 : decode cX4_leavesIt 93 = .ok (.iload 5, 2) := by decide +kernel
theorem dX4_leavesIt_95 : decode cX4_leavesIt 95 = .ok (.isub, 1) := by decide +kernel
theorem dX4_leavesIt_96 : decode cX4_leavesIt 96 = .ok (.ireturn, 1) := by decide +kernel
theorem dX4_leavesIt_97 : decode cX4_leavesIt 97 = .ok (.iconst 0, 1) := by decide +kernel
theorem dX4_leavesIt_98 : decode cX4_leavesIt 98 = .ok (.ireturn, 1) := by decide +kernel
theorem dX4_leavesIt_99 : decode cX4_leavesIt 99 = .ok (.iload_n 2, 1) := by decide +kernel
theorem dX4_leavesIt_100 : decode cX4_leavesIt 100 = .ok (.ifCond .ne 7, 3) := by decide +kernel
theorem dX4_leavesIt_103 : decode cX4_leavesIt 103 = .ok (.iconst 1, 1) := by decide +kernel
theorem dX4_leavesIt_104 : decode cX4_leavesIt 104 = .ok (.goto 4, 3) := by decide +kernel
theorem dX4_leavesIt_107 : decode cX4_leavesIt 107 = .ok (.iconst 3, 1) := by decide +kernel
theorem dX4_leavesIt_108 : decode cX4_leavesIt 108 = .ok (.ireturn, 1) := by decide +kernel
theorem dX4_leavesIt_109 : decode cX4_leavesIt 109 = .ok (.iload_n 3, 1) := by decide +kernel
theorem dX4_leavesIt_110 : decode cX4_leavesIt 110 = .ok (.ireturn, 1) := by decide +kernel
theorem dX4_feels_0 : decode cX4_feels 0 = .ok (.aload_n 0, 1) := by decide +kernel
theorem dX4_feels_1 : decode cX4_feels 1 = .ok (.iload_n 1, 1) := by decide +kernel
theorem dX4_feels_2 : decode cX4_feels 2 = .ok (.iconst 3, 1) := by decide +kernel
theorem dX4_feels_3 : decode cX4_feels 3 = .ok (.invokevirtual 62, 3) := by decide +kernel
theorem dX4_feels_6 : decode cX4_feels 6 = .ok (.istore_n 3, 1) := by decide +kernel
theorem dX4_feels_7 : decode cX4_feels 7 = .ok (.bipush 9, 2) := by decide +kernel
theorem dX4_feels_9 : decode cX4_feels 9 = .ok (.iload_n 3, 1) := by decide +kernel
theorem dX4_feels_10 : decode cX4_feels 10 = .ok (.iload_n 2, 1) := by decide +kernel
theorem dX4_feels_11 : decode cX4_feels 11 = .ok (.iadd, 1) := by decide +kernel
theorem dX4_feels_12 : decode cX4_feels 12 = .ok (.invokestatic 86, 3) := by decide +kernel
theorem dX4_feels_15 : decode cX4_feels 15 = .ok (.istore 4, 2) := by decide +kernel
theorem dX4_feels_17 : decode cX4_feels 17 = .ok (.bipush 9, 2) := by decide +kernel
theorem dX4_feels_19 : decode cX4_feels 19 = .ok (.iload 4, 2) := by decide +kernel
theorem dX4_feels_21 : decode cX4_feels 21 = .ok (.iconst 1, 1) := by decide +kernel
theorem dX4_feels_22 : decode cX4_feels 22 = .ok (.iadd, 1) := by decide +kernel
theorem dX4_feels_23 : decode cX4_feels 23 = .ok (.invokestatic 86, 3) := by decide +kernel
theorem dX4_feels_26 : decode cX4_feels 26 = .ok (.istore 5, 2) := by decide +kernel
theorem dX4_feels_28 : decode cX4_feels 28 = .ok (.aload_n 0, 1) := by decide +kernel
theorem dX4_feels_29 : decode cX4_feels 29 = .ok (.iload_n 1, 1) := by decide +kernel
theorem dX4_feels_30 : decode cX4_feels 30 = .ok (.iconst 0, 1) := by decide +kernel
theorem dX4_feels_31 : decode cX4_feels 31 = .ok (.invokevirtual 62, 3) := by decide +kernel
theorem dX4_feels_34 : decode cX4_feels 34 = .ok (.tableswitch 69 1 6 #[38, 41, 44, 47, 52, 64], 38) := by decide +kernel
theorem dX4_feels_72 : decode cX4_feels 72 = .ok (.bipush 9, 2) := by decide +kernel
theorem dX4_feels_74 : decode cX4_feels 74 = .ok (.ireturn, 1) := by decide +kernel
theorem dX4_feels_75 : decode cX4_feels 75 = .ok (.iload 4, 2) := by decide +kernel
theorem dX4_feels_77 : decode cX4_feels 77 = .ok (.ireturn, 1) := by decide +kernel
theorem dX4_feels_78 : decode cX4_feels 78 = .ok (.iload 5, 2) := by decide +kernel
theorem dX4_feels_80 : decode cX4_feels 80 = .ok (.ireturn, 1) := by decide +kernel
theorem dX4_feels_81 : decode cX4_feels 81 = .ok (.iload 5, 2) := by decide +kernel
theorem dX4_feels_83 : decode cX4_feels 83 = .ok (.iconst 2, 1) := by decide +kernel
theorem dX4_feels_84 : decode cX4_feels 84 = .ok (.idiv, 1) := by decide +kernel
theorem dX4_feels_85 : decode cX4_feels 85 = .ok (.ireturn, 1) := by decide +kernel
theorem dX4_feels_86 : decode cX4_feels 86 = .ok (.iload_n 3, 1) := by decide +kernel
theorem dX4_feels_87 : decode cX4_feels 87 = .ok (.ifCond .ne 7, 3) := by decide +kernel
theorem dX4_feels_90 : decode cX4_feels 90 = .ok (.iconst 0, 1) := by decide +kernel
theorem dX4_feels_91 : decode cX4_feels 91 = .ok (.goto 6, 3) := by decide +kernel
theorem dX4_feels_94 : decode cX4_feels 94 = .ok (.iload_n 3, 1) := by decide +kernel
theorem dX4_feels_95 : decode cX4_feels 95 = .ok (.iconst 1, 1) := by decide +kernel
theorem dX4_feels_96 : decode cX4_feels 96 = .ok (.isub, 1) := by decide +kernel
theorem dX4_feels_97 : decode cX4_feels 97 = .ok (.ireturn, 1) := by decide +kernel
theorem dX4_feels_98 : decode cX4_feels 98 = .ok (.bipush 9, 2) := by decide +kernel
theorem dX4_feels_100 : decode cX4_feels 100 = .ok (.iload_n 2, 1) := by decide +kernel
theorem dX4_feels_101 : decode cX4_feels 101 = .ok (.isub, 1) := by decide +kernel
theorem dX4_feels_102 : decode cX4_feels 102 = .ok (.ireturn, 1) := by decide +kernel
theorem dX4_feels_103 : decode cX4_feels 103 = .ok (.iload_n 3, 1) := by decide +kernel
theorem dX4_feels_104 : decode cX4_feels 104 = .ok (.ireturn, 1) := by decide +kernel
theorem dX4_goesFar_0 : decode cX4_goesFar 0 = .ok (.aload_n 0, 1) := by decide +kernel
theorem dX4_goesFar_1 : decode cX4_goesFar 1 = .ok (.iload_n 1, 1) := by decide +kernel
theorem dX4_goesFar_2 : decode cX4_goesFar 2 = .ok (.iconst 3, 1) := by decide +kernel
theorem dX4_goesFar_3 : decode cX4_goesFar 3 = .ok (.invokevirtual 62, 3) := by decide +kernel
theorem dX4_goesFar_6 : decode cX4_goesFar 6 = .ok (.iconst 5, 1) := by decide +kernel
theorem dX4_goesFar_7 : decode cX4_goesFar 7 = .ok (.if_icmp .lt 7, 3) := by decide +kernel
theorem dX4_goesFar_10 : decode cX4_goesFar 10 = .ok (.iconst 3, 1) := by decide +kernel
theorem dX4_goesFar_11 : decode cX4_goesFar 11 = .ok (.goto 4, 3) := by decide +kernel
theorem dX4_goesFar_14 : decode cX4_goesFar 14 = .ok (.iconst 1, 1) := by decide +kernel
theorem dX4_goesFar_15 : decode cX4_goesFar 15 = .ok (.istore_n 2, 1) := by decide +kernel
theorem dX4_goesFar_16 : decode cX4_goesFar 16 = .ok (.aload_n 0, 1) := by decide +kernel
theorem dX4_goesFar_17 : decode cX4_goesFar 17 = .ok (.iload_n 1, 1) := by decide +kernel
theorem dX4_goesFar_18 : decode cX4_goesFar 18 = .ok (.iconst 0, 1) := by decide +kernel
theorem dX4_goesFar_19 : decode cX4_goesFar 19 = .ok (.invokevirtual 62, 3) := by decide +kernel
theorem dX4_goesFar_22 : decode cX4_goesFar 22 = .ok (.tableswitch 46 1 6 #[38, 40, 42, 42, 46, 38], 38) := by decide +kernel
theorem dX4_goesFar_60 : decode cX4_goesFar 60 = .ok (.iconst 2, 1) := by decide +kernel
theorem dX4_goesFar_61 : decode cX4_goesFar 61 = .ok (.ireturn, 1) := by decide +kernel
theorem dX4_goesFar_62 : decode cX4_goesFar 62 = .ok (.iload_n 2, 1) := by decide +kernel
theorem dX4_goesFar_63 : decode cX4_goesFar 63 = .ok (.ireturn, 1) := by decide +kernel
theorem dX4_goesFar_64 : decode cX4_goesFar 64 = .ok (.iload_n 2, 1) := by decide +kernel
theorem dX4_goesFar_65 : decode cX4_goesFar 65 = .ok (.iconst 1, 1) := by decide +kernel
theorem dX4_goesFar_66 : decode cX4_goesFar 66 = .ok (.isub, 1) := by decide +kernel
theorem dX4_goesFar_67 : decode cX4_goesFar 67 = .ok (.ireturn, 1) := by decide +kernel
theorem dX4_goesFar_68 : decode cX4_goesFar 68 = .ok (.iconst 1, 1) := by decide +kernel
theorem dX4_goesFar_69 : decode cX4_goesFar 69 = .ok (.ireturn, 1) := by decide +kernel
theorem dX4_of_0 : decode cX4_of 0 = .ok (.aload_n 0, 1) := by decide +kernel
theorem dX4_of_1 : decode cX4_of 1 = .ok (.iload_n 1, 1) := by decide +kernel
theorem dX4_of_2 : decode cX4_of 2 = .ok (.invokevirtual 89, 3) := by decide +kernel
theorem dX4_of_5 : decode cX4_of 5 = .ok (.ifCond .eq 15, 3) := by decide +kernel
theorem dX4_of_8 : decode cX4_of 8 = .ok (.iload_n 2, 1) := by decide +kernel
theorem dX4_of_9 : decode cX4_of 9 = .ok (.i2l, 1) := by decide +kernel
theorem dX4_of_10 : decode cX4_of 10 = .ok (.lconst 0, 1) := by decide +kernel
theorem dX4_of_11 : decode cX4_of 11 = .ok (.ldc2_w 92, 3) := by decide +kernel
theorem dX4_of_14 : decode cX4_of 14 = .ok (.invokestatic 43, 3) := by decide +kernel
theorem dX4_of_17 : decode cX4_of 17 = .ok (.ifCond .ne 10, 3) := by decide +kernel
theorem dX4_of_20 : decode cX4_of 20 = .ok (.aload_n 0, 1) := by decide +kernel
theorem dX4_of_21 : decode cX4_of 21 = .ok (.ldc 40, 2) := by decide +kernel
theorem dX4_of_23 : decode cX4_of 23 = .ok (.invokevirtual 48, 3) := by decide +kernel
theorem dX4_of_26 : decode cX4_of 26 = .ok (.ireturn, 1) := by decide +kernel
theorem dX4_of_27 : decode cX4_of 27 = .ok (.iload_n 2, 1) := by decide +kernel
theorem dX4_of_28 : decode cX4_of 28 = .ok (.iconst 5, 1) := by decide +kernel
theorem dX4_of_29 : decode cX4_of 29 = .ok (.if_icmp .ge 12, 3) := by decide +kernel
theorem dX4_of_32 : decode cX4_of 32 = .ok (.aload_n 0, 1) := by decide +kernel
theorem dX4_of_33 : decode cX4_of 33 = .ok (.iload_n 1, 1) := by decide +kernel
theorem dX4_of_34 : decode cX4_of 34 = .ok (.iload_n 2, 1) := by decide +kernel
theorem dX4_of_35 : decode cX4_of 35 = .ok (.invokevirtual 62, 3) := by decide +kernel
theorem dX4_of_38 : decode cX4_of 38 = .ok (.goto 8, 3) := by decide +kernel
theorem dX4_of_41 : decode cX4_of 41 = .ok (.aload_n 0, 1) := by decide +kernel
theorem dX4_of_42 : decode cX4_of 42 = .ok (.iload_n 1, 1) := by decide +kernel
theorem dX4_of_43 : decode cX4_of 43 = .ok (.invokevirtual 94, 3) := by decide +kernel
theorem dX4_of_46 : decode cX4_of 46 = .ok (.ireturn, 1) := by decide +kernel
theorem dX4_greatestOf_0 : decode cX4_greatestOf 0 = .ok (.iload_n 0, 1) := by decide +kernel
theorem dX4_greatestOf_1 : decode cX4_greatestOf 1 = .ok (.ifCond .ne 8, 3) := by decide +kernel
theorem dX4_greatestOf_4 : decode cX4_greatestOf 4 = .ok (.bipush 6, 2) := by decide +kernel
theorem dX4_greatestOf_6 : decode cX4_greatestOf 6 = .ok (.goto 35, 3) := by decide +kernel
theorem dX4_greatestOf_9 : decode cX4_greatestOf 9 = .ok (.iload_n 0, 1) := by decide +kernel
theorem dX4_greatestOf_10 : decode cX4_greatestOf 10 = .ok (.iconst 1, 1) := by decide +kernel
theorem dX4_greatestOf_11 : decode cX4_greatestOf 11 = .ok (.if_icmp .ne 8, 3) := by decide +kernel
theorem dX4_greatestOf_14 : decode cX4_greatestOf 14 = .ok (.bipush 8, 2) := by decide +kernel
theorem dX4_greatestOf_16 : decode cX4_greatestOf 16 = .ok (.goto 25, 3) := by decide +kernel
theorem dX4_greatestOf_19 : decode cX4_greatestOf 19 = .ok (.iload_n 0, 1) := by decide +kernel
theorem dX4_greatestOf_20 : decode cX4_greatestOf 20 = .ok (.iconst 2, 1) := by decide +kernel
theorem dX4_greatestOf_21 : decode cX4_greatestOf 21 = .ok (.if_icmp .ne 7, 3) := by decide +kernel
theorem dX4_greatestOf_24 : decode cX4_greatestOf 24 = .ok (.iconst 1, 1) := by decide +kernel
theorem dX4_greatestOf_25 : decode cX4_greatestOf 25 = .ok (.goto 16, 3) := by decide +kernel
theorem dX4_greatestOf_28 : decode cX4_greatestOf 28 = .ok (.iload_n 0, 1) := by decide +kernel
theorem dX4_greatestOf_29 : decode cX4_greatestOf 29 = .ok (.iconst 3, 1) := by decide +kernel
theorem dX4_greatestOf_30 : decode cX4_greatestOf 30 = .ok (.if_icmp .ne 8, 3) := by decide +kernel
theorem dX4_greatestOf_33 : decode cX4_greatestOf 33 = .ok (.bipush 9, 2) := by decide +kernel
theorem dX4_greatestOf_35 : decode cX4_greatestOf 35 = .ok (.goto 6, 3) := by decide +kernel
theorem dX4_greatestOf_38 : decode cX4_greatestOf 38 = .ok (.sipush 9999, 3) := by decide +kernel
theorem dX4_greatestOf_41 : decode cX4_greatestOf 41 = .ok (.ireturn, 1) := by decide +kernel
theorem dX4_change_0 : decode cX4_change 0 = .ok (.aload_n 0, 1) := by decide +kernel
theorem dX4_change_1 : decode cX4_change 1 = .ok (.iload_n 1, 1) := by decide +kernel
theorem dX4_change_2 : decode cX4_change 2 = .ok (.invokevirtual 89, 3) := by decide +kernel
theorem dX4_change_5 : decode cX4_change 5 = .ok (.ifCond .eq 33, 3) := by decide +kernel
theorem dX4_change_8 : decode cX4_change 8 = .ok (.iload_n 2, 1) := by decide +kernel
theorem dX4_change_9 : decode cX4_change 9 = .ok (.i2l, 1) := by decide +kernel
theorem dX4_change_10 : decode cX4_change 10 = .ok (.lconst 0, 1) := by decide +kernel
theorem dX4_change_11 : decode cX4_change 11 = .ok (.ldc2_w 97, 3) := by decide +kernel
theorem dX4_change_14 : decode cX4_change 14 = .ok (.invokestatic 43, 3) := by decide +kernel
theorem dX4_change_17 : decode cX4_change 17 = .ok (.ifCond .eq 21, 3) := by decide +kernel
theorem dX4_change_20 : decode cX4_change 20 = .ok (.iload_n 3, 1) := by decide +kernel
theorem dX4_change_21 : decode cX4_change 21 = .ok (.i2l, 1) := by decide +kernel
theorem dX4_change_22 : decode cX4_change 22 = .ok (.lconst 0, 1) := by decide +kernel
theorem dX4_change_23 : decode cX4_change 23 = .ok (.iload_n 2, 1) := by decide +kernel
theorem dX4_change_24 : decode cX4_change 24 = .ok (.invokestatic 99, 3) := by decide +kernel
theorem dX4_change_27 : decode cX4_change 27 = .ok (.i2l, 1) := by decide +kernel
theorem dX4_change_28 : decode cX4_change 28 = .ok (.invokestatic 43, 3) := by decide +kernel
theorem dX4_change_31 : decode cX4_change 31 = .ok (.ifCond .eq 7, 3) := by decide +kernel
theorem dX4_change_34 : decode cX4_change 34 = .ok (.iconst 1, 1) := by decide +kernel
theorem dX4_change_35 : decode cX4_change 35 = .ok (.goto 4, 3) := by decide +kernel
theorem dX4_change_38 : decode cX4_change 38 = .ok (.iconst 0, 1) := by decide +kernel
theorem dX4_change_39 : decode cX4_change 39 = .ok (.istore 4, 2) := by decide +kernel
theorem dX4_change_41 : decode cX4_change 41 = .ok (.iload 4, 2) := by decide +kernel
theorem dX4_change_43 : decode cX4_change 43 = .ok (.ifCond .eq 16, 3) := by decide +kernel
theorem dX4_change_46 : decode cX4_change 46 = .ok (.aload_n 0, 1) := by decide +kernel
theorem dX4_change_47 : decode cX4_change 47 = .ok (.iload_n 1, 1) := by decide +kernel
theorem dX4_change_48 : decode cX4_change 48 = .ok (.iload_n 2, 1) := by decide +kernel
theorem dX4_change_49 : decode cX4_change 49 = .ok (.invokestatic 76, 3) := by decide +kernel
theorem dX4_change_52 : decode cX4_change 52 = .ok (.iload_n 3, 1) := by decide +kernel
theorem dX4_change_53 : decode cX4_change 53 = .ok (.invokevirtual 58, 3) := by decide +kernel
theorem dX4_change_56 : decode cX4_change 56 = .ok (.goto 9, 3) := by decide +kernel
theorem dX4_change_59 : decode cX4_change 59 = .ok (.aload_n 0, 1) := by decide +kernel
theorem dX4_change_60 : decode cX4_change 60 = .ok (.ldc 40, 2) := by decide +kernel
theorem dX4_change_62 : decode cX4_change 62 = .ok (.invokevirtual 48, 3) := by decide +kernel
theorem dX4_change_65 : decode cX4_change 65 = .ok (.ireturn, 1) := by decide +kernel
theorem dX4_leaves_0 : decode cX4_leaves 0 = .ok (.aload_n 0, 1) := by decide +kernel
theorem dX4_leaves_1 : decode cX4_leaves 1 = .ok (.iload_n 1, 1) := by decide +kernel
theorem dX4_leaves_2 : decode cX4_leaves 2 = .ok (.invokevirtual 89, 3) := by decide +kernel
theorem dX4_leaves_5 : decode cX4_leaves 5 = .ok (.ifCond .eq 20, 3) := by decide +kernel
theorem dX4_leaves_8 : decode cX4_leaves 8 = .ok (.iload_n 2, 1) := by decide +kernel
theorem dX4_leaves_9 : decode cX4_leaves 9 = .ok (.invokestatic 71, 3) := by decide +kernel
theorem dX4_leaves_12 : decode cX4_leaves 12 = .ok (.ifCond .eq 13, 3) := by decide +kernel
theorem dX4_leaves_15 : decode cX4_leaves 15 = .ok (.iload_n 3, 1) := by decide +kernel
theorem dX4_leaves_16 : decode cX4_leaves 16 = .ok (.i2l, 1) := by decide +kernel
theorem dX4_leaves_17 : decode cX4_leaves 17 = .ok (.lconst 0, 1) := by decide +kernel
theorem dX4_leaves_18 : decode cX4_leaves 18 = .ok (.lconst 1, 1) := by decide +kernel
theorem dX4_leaves_19 : decode cX4_leaves 19 = .ok (.invokestatic 43, 3) := by decide +kernel
theorem dX4_leaves_22 : decode cX4_leaves 22 = .ok (.ifCond .ne 10, 3) := by decide +kernel
theorem dX4_leaves_25 : decode cX4_leaves 25 = .ok (.aload_n 0, 1) := by decide +kernel
theorem dX4_leaves_26 : decode cX4_leaves 26 = .ok (.ldc 40, 2) := by decide +kernel
theorem dX4_leaves_28 : decode cX4_leaves 28 = .ok (.invokevirtual 48, 3) := by decide +kernel
theorem dX4_leaves_31 : decode cX4_leaves 31 = .ok (.ireturn, 1) := by decide +kernel
theorem dX4_leaves_32 : decode cX4_leaves 32 = .ok (.iload_n 3, 1) := by decide +kernel
theorem dX4_leaves_33 : decode cX4_leaves 33 = .ok (.ifCond .ne 12, 3) := by decide +kernel
theorem dX4_leaves_36 : decode cX4_leaves 36 = .ok (.aload_n 0, 1) := by decide +kernel
theorem dX4_leaves_37 : decode cX4_leaves 37 = .ok (.iload_n 1, 1) := by decide +kernel
theorem dX4_leaves_38 : decode cX4_leaves 38 = .ok (.iload_n 2, 1) := by decide +kernel
theorem dX4_leaves_39 : decode cX4_leaves 39 = .ok (.invokevirtual 102, 3) := by decide +kernel
theorem dX4_leaves_42 : decode cX4_leaves 42 = .ok (.goto 9, 3) := by decide +kernel
theorem dX4_leaves_45 : decode cX4_leaves 45 = .ok (.aload_n 0, 1) := by decide +kernel
theorem dX4_leaves_46 : decode cX4_leaves 46 = .ok (.iload_n 1, 1) := by decide +kernel
theorem dX4_leaves_47 : decode cX4_leaves 47 = .ok (.iload_n 2, 1) := by decide +kernel
theorem dX4_leaves_48 : decode cX4_leaves 48 = .ok (.invokevirtual 105, 3) := by decide +kernel
theorem dX4_leaves_51 : decode cX4_leaves 51 = .ok (.ireturn, 1) := by decide +kernel
theorem dX4_walks_0 : decode cX4_walks 0 = .ok (.aload_n 0, 1) := by decide +kernel
theorem dX4_walks_1 : decode cX4_walks 1 = .ok (.iload_n 1, 1) := by decide +kernel
theorem dX4_walks_2 : decode cX4_walks 2 = .ok (.iconst 1, 1) := by decide +kernel
theorem dX4_walks_3 : decode cX4_walks 3 = .ok (.invokevirtual 62, 3) := by decide +kernel
theorem dX4_walks_6 : decode cX4_walks 6 = .ok (.istore_n 2, 1) := by decide +kernel
theorem dX4_walks_7 : decode cX4_walks 7 = .ok (.aload_n 0, 1) := by decide +kernel
theorem dX4_walks_8 : decode cX4_walks 8 = .ok (.iload_n 1, 1) := by decide +kernel
theorem dX4_walks_9 : decode cX4_walks 9 = .ok (.iconst 2, 1) := by decide +kernel
theorem dX4_walks_10 : decode cX4_walks 10 = .ok (.invokevirtual 62, 3) := by decide +kernel
theorem dX4_walks_13 : decode cX4_walks 13 = .ok (.istore_n 3, 1) := by decide +kernel
theorem dX4_walks_14 : decode cX4_walks 14 = .ok (.iload_n 3, 1) := by decide +kernel
theorem dX4_walks_15 : decode cX4_walks 15 = .ok (.ifCond .ne 7, 3) := by decide +kernel
theorem dX4_walks_18 : decode cX4_walks 18 = .ok (.iload_n 2, 1) := by decide +kernel
theorem dX4_walks_19 : decode cX4_walks 19 = .ok (.goto 6, 3) := by decide +kernel
theorem dX4_walks_22 : decode cX4_walks 22 = .ok (.iload_n 2, 1) := by decide +kernel
theorem dX4_walks_23 : decode cX4_walks 23 = .ok (.iconst 1, 1) := by decide +kernel
theorem dX4_walks_24 : decode cX4_walks 24 = .ok (.isub, 1) := by decide +kernel
theorem dX4_walks_25 : decode cX4_walks 25 = .ok (.istore 4, 2) := by decide +kernel
theorem dX4_walks_27 : decode cX4_walks 27 = .ok (.iload 4, 2) := by decide +kernel
theorem dX4_walks_29 : decode cX4_walks 29 = .ok (.invokestatic 68, 3) := by decide +kernel
theorem dX4_walks_32 : decode cX4_walks 32 = .ok (.ifCond .ne 17, 3) := by decide +kernel
theorem dX4_walks_35 : decode cX4_walks 35 = .ok (.aload_n 0, 1) := by decide +kernel
theorem dX4_walks_36 : decode cX4_walks 36 = .ok (.getfield 7, 3) := by decide +kernel
theorem dX4_walks_39 : decode cX4_walks 39 = .ok (.iload_n 1, 1) := by decide +kernel
theorem dX4_walks_40 : decode cX4_walks 40 = .ok (.iconst 2, 1) := by decide +kernel
theorem dX4_walks_41 : decode cX4_walks 41 = .ok (.invokestatic 76, 3) := by decide +kernel
theorem dX4_walks_44 : decode cX4_walks 44 = .ok (.iconst 1, 1) := by decide +kernel
theorem dX4_walks_45 : decode cX4_walks 45 = .ok (.iload_n 3, 1) := by decide +kernel
theorem dX4_walks_46 : decode cX4_walks 46 = .ok (.isub, 1) := by decide +kernel
theorem dX4_walks_47 : decode cX4_walks 47 = .ok (.iastore, 1) := by decide +kernel
theorem dX4_walks_48 : decode cX4_walks 48 = .ok (.return_, 1) := by decide +kernel
theorem dX4_walks_49 : decode cX4_walks 49 = .ok (.aload_n 0, 1) := by decide +kernel
theorem dX4_walks_50 : decode cX4_walks 50 = .ok (.getfield 7, 3) := by decide +kernel
theorem dX4_walks_53 : decode cX4_walks 53 = .ok (.bipush 13, 2) := by decide +kernel
theorem dX4_walks_55 : decode cX4_walks 55 = .ok (.iload 4, 2) := by decide +kernel
theorem dX4_walks_57 : decode cX4_walks 57 = .ok (.iadd, 1) := by decide +kernel
theorem dX4_walks_58 : decode cX4_walks 58 = .ok (.iaload, 1) := by decide +kernel
theorem dX4_walks_59 : decode cX4_walks 59 = .ok (.istore 5, 2) := by decide +kernel
theorem dX4_walks_61 : decode cX4_walks 61 = .ok (.aload_n 0, 1) := by decide +kernel
theorem dX4_walks_62 : decode cX4_walks 62 = .ok (.iload_n 1, 1) := by decide +kernel
theorem dX4_walks_63 : decode cX4_walks 63 = .ok (.iload 5, 2) := by decide +kernel
theorem dX4_walks_65 : decode cX4_walks 65 = .ok (.invokevirtual 105, 3) := by decide +kernel
theorem dX4_walks_68 : decode cX4_walks 68 = .ok (.istore 6, 2) := by decide +kernel
theorem dX4_walks_70 : decode cX4_walks 70 = .ok (.aload_n 0, 1) := by decide +kernel
theorem dX4_walks_71 : decode cX4_walks 71 = .ok (.getfield 7, 3) := by decide +kernel
theorem dX4_walks_74 : decode cX4_walks 74 = .ok (.bipush 13, 2) := by decide +kernel
theorem dX4_walks_76 : decode cX4_walks 76 = .ok (.iload 4, 2) := by decide +kernel
theorem dX4_walks_78 : decode cX4_walks 78 = .ok (.iadd, 1) := by decide +kernel
theorem dX4_walks_79 : decode cX4_walks 79 = .ok (.aload_n 0, 1) := by decide +kernel
theorem dX4_walks_80 : decode cX4_walks 80 = .ok (.iload_n 1, 1) := by decide +kernel
theorem dX4_walks_81 : decode cX4_walks 81 = .ok (.iload 5, 2) := by decide +kernel
theorem dX4_walks_83 : decode cX4_walks 83 = .ok (.invokevirtual 102, 3) := by decide +kernel
theorem dX4_walks_86 : decode cX4_walks 86 = .ok (.iastore, 1) := by decide +kernel
theorem dX4_walks_87 : decode cX4_walks 87 = .ok (.aload_n 0, 1) := by decide +kernel
theorem dX4_walks_88 : decode cX4_walks 88 = .ok (.getfield 7, 3) := by decide +kernel
theorem dX4_walks_91 : decode cX4_walks 91 = .ok (.iload_n 1, 1) := by decide +kernel
theorem dX4_walks_92 : decode cX4_walks 92 = .ok (.iconst 3, 1) := by decide +kernel
theorem dX4_walks_93 : decode cX4_walks 93 = .ok (.invokestatic 76, 3) := by decide +kernel
theorem dX4_walks_96 : decode cX4_walks 96 = .ok (.iload 6, 2) := by decide +kernel
theorem dX4_walks_98 : decode cX4_walks 98 = .ok (.iastore, 1) := by decide +kernel
theorem dX4_walks_99 : decode cX4_walks 99 = .ok (.aload_n 0, 1) := by decide +kernel
theorem dX4_walks_100 : decode cX4_walks 100 = .ok (.getfield 7, 3) := by decide +kernel
theorem dX4_walks_103 : decode cX4_walks 103 = .ok (.iload_n 1, 1) := by decide +kernel
theorem dX4_walks_104 : decode cX4_walks 104 = .ok (.iconst 1, 1) := by decide +kernel
theorem dX4_walks_105 : decode cX4_walks 105 = .ok (.invokestatic 76, 3) := by decide +kernel
theorem dX4_walks_108 : decode cX4_walks 108 = .ok (.iload_n 3, 1) := by decide +kernel
theorem dX4_walks_109 : decode cX4_walks 109 = .ok (.ifCond .ne 9, 3) := by decide +kernel
theorem dX4_walks_112 : decode cX4_walks 112 = .ok (.iload_n 2, 1) := by decide +kernel
theorem dX4_walks_113 : decode cX4_walks 113 = .ok (.iconst 1, 1) := by decide +kernel
theorem dX4_walks_114 : decode cX4_walks 114 = .ok (.iadd, 1) := by decide +kernel
theorem dX4_walks_115 : decode cX4_walks 115 = .ok (.goto 6, 3) := by decide +kernel
theorem dX4_walks_118 : decode cX4_walks 118 = .ok (.iload_n 2, 1) := by decide +kernel
theorem dX4_walks_119 : decode cX4_walks 119 = .ok (.iconst 1, 1) := by decide +kernel
theorem dX4_walks_120 : decode cX4_walks 120 = .ok (.isub, 1) := by decide +kernel
theorem dX4_walks_121 : decode cX4_walks 121 = .ok (.iastore, 1) := by decide +kernel
theorem dX4_walks_122 : decode cX4_walks 122 = .ok (.aload_n 0, 1) := by decide +kernel
theorem dX4_walks_123 : decode cX4_walks 123 = .ok (.getfield 7, 3) := by decide +kernel
theorem dX4_walks_126 : decode cX4_walks 126 = .ok (.iload_n 1, 1) := by decide +kernel
theorem dX4_walks_127 : decode cX4_walks 127 = .ok (.iconst 4, 1) := by decide +kernel
theorem dX4_walks_128 : decode cX4_walks 128 = .ok (.invokestatic 76, 3) := by decide +kernel
theorem dX4_walks_131 : decode cX4_walks 131 = .ok (.sipush 9999, 3) := by decide +kernel
theorem dX4_walks_134 : decode cX4_walks 134 = .ok (.aload_n 0, 1) := by decide +kernel
theorem dX4_walks_135 : decode cX4_walks 135 = .ok (.iload_n 1, 1) := by decide +kernel
theorem dX4_walks_136 : decode cX4_walks 136 = .ok (.iconst 4, 1) := by decide +kernel
theorem dX4_walks_137 : decode cX4_walks 137 = .ok (.invokevirtual 62, 3) := by decide +kernel
theorem dX4_walks_140 : decode cX4_walks 140 = .ok (.iconst 1, 1) := by decide +kernel
theorem dX4_walks_141 : decode cX4_walks 141 = .ok (.iadd, 1) := by decide +kernel
theorem dX4_walks_142 : decode cX4_walks 142 = .ok (.invokestatic 86, 3) := by decide +kernel
theorem dX4_walks_145 : decode cX4_walks 145 = .ok (.iastore, 1) := by decide +kernel
theorem dX4_walks_146 : decode cX4_walks 146 = .ok (.return_, 1) := by decide +kernel
theorem dX4_wander_0 : decode cX4_wander 0 = .ok (.iconst 0, 1) := by decide +kernel
theorem dX4_wander_1 : decode cX4_wander 1 = .ok (.istore_n 1, 1) := by decide +kernel
theorem dX4_wander_2 : decode cX4_wander 2 = .ok (.iload_n 1, 1) := by decide +kernel
theorem dX4_wander_3 : decode cX4_wander 3 = .ok (.bipush 8, 2) := by decide +kernel
theorem dX4_wander_5 : decode cX4_wander 5 = .ok (.if_icmp .ge 66, 3) := by decide +kernel
theorem dX4_wander_8 : decode cX4_wander 8 = .ok (.aload_n 0, 1) := by decide +kernel
theorem dX4_wander_9 : decode cX4_wander 9 = .ok (.getfield 7, 3) := by decide +kernel
theorem dX4_wander_12 : decode cX4_wander 12 = .ok (.iconst 4, 1) := by decide +kernel
theorem dX4_wander_13 : decode cX4_wander 13 = .ok (.iload_n 1, 1) := by decide +kernel
theorem dX4_wander_14 : decode cX4_wander 14 = .ok (.iadd, 1) := by decide +kernel
theorem dX4_wander_15 : decode cX4_wander 15 = .ok (.iaload, 1) := by decide +kernel
theorem dX4_wander_16 : decode cX4_wander 16 = .ok (.aload_n 0, 1) := by decide +kernel
theorem dX4_wander_17 : decode cX4_wander 17 = .ok (.getfield 7, 3) := by decide +kernel
theorem dX4_wander_20 : decode cX4_wander 20 = .ok (.iconst 4, 1) := by decide +kernel
theorem dX4_wander_21 : decode cX4_wander 21 = .ok (.iload_n 1, 1) := by decide +kernel
theorem dX4_wander_22 : decode cX4_wander 22 = .ok (.iadd, 1) := by decide +kernel
theorem dX4_wander_23 : decode cX4_wander 23 = .ok (.iconst 1, 1) := by decide +kernel
theorem dX4_wander_24 : decode cX4_wander 24 = .ok (.iadd, 1) := by decide +kernel
theorem dX4_wander_25 : decode cX4_wander 25 = .ok (.iaload, 1) := by decide +kernel
theorem dX4_wander_26 : decode cX4_wander 26 = .ok (.isub, 1) := by decide +kernel
theorem dX4_wander_27 : decode cX4_wander 27 = .ok (.istore_n 2, 1) := by decide +kernel
theorem dX4_wander_28 : decode cX4_wander 28 = .ok (.aload_n 0, 1) := by decide +kernel
theorem dX4_wander_29 : decode cX4_wander 29 = .ok (.getfield 7, 3) := by decide +kernel
theorem dX4_wander_32 : decode cX4_wander 32 = .ok (.bipush 13, 2) := by decide +kernel
theorem dX4_wander_34 : decode cX4_wander 34 = .ok (.iload_n 1, 1) := by decide +kernel
theorem dX4_wander_35 : decode cX4_wander 35 = .ok (.iadd, 1) := by decide +kernel
theorem dX4_wander_36 : decode cX4_wander 36 = .ok (.iaload, 1) := by decide +kernel
theorem dX4_wander_37 : decode cX4_wander 37 = .ok (.istore_n 3, 1) := by decide +kernel
theorem dX4_wander_38 : decode cX4_wander 38 = .ok (.aload_n 0, 1) := by decide +kernel
theorem dX4_wander_39 : decode cX4_wander 39 = .ok (.getfield 37, 3) := by decide +kernel
theorem dX4_wander_42 : decode cX4_wander 42 = .ok (.iload_n 1, 1) := by decide +kernel
theorem dX4_wander_43 : decode cX4_wander 43 = .ok (.iload_n 3, 1) := by decide +kernel
theorem dX4_wander_44 : decode cX4_wander 44 = .ok (.ifCond .ne 7, 3) := by decide +kernel
theorem dX4_wander_47 : decode cX4_wander 47 = .ok (.iconst 0, 1) := by decide +kernel
theorem dX4_wander_48 : decode cX4_wander 48 = .ok (.goto 16, 3) := by decide +kernel
theorem dX4_wander_51 : decode cX4_wander 51 = .ok (.iload_n 2, 1) := by decide +kernel
theorem dX4_wander_52 : decode cX4_wander 52 = .ok (.iload_n 3, 1) := by decide +kernel
theorem dX4_wander_53 : decode cX4_wander 53 = .ok (.iconst 1, 1) := by decide +kernel
theorem dX4_wander_54 : decode cX4_wander 54 = .ok (.if_icmp .ne 8, 3) := by decide +kernel
theorem dX4_wander_57 : decode cX4_wander 57 = .ok (.bipush 16, 2) := by decide +kernel
theorem dX4_wander_59 : decode cX4_wander 59 = .ok (.goto 4, 3) := by decide +kernel
theorem dX4_wander_62 : decode cX4_wander 62 = .ok (.iconst 4, 1) := by decide +kernel
theorem dX4_wander_63 : decode cX4_wander 63 = .ok (.idiv, 1) := by decide +kernel
theorem dX4_wander_64 : decode cX4_wander 64 = .ok (.iastore, 1) := by decide +kernel
theorem dX4_wander_65 : decode cX4_wander 65 = .ok (.iinc 1 1, 3) := by decide +kernel
theorem dX4_wander_68 : decode cX4_wander 68 = .ok (.goto (-66), 3) := by decide +kernel
theorem dX4_wander_71 : decode cX4_wander 71 = .ok (.iconst 0, 1) := by decide +kernel
theorem dX4_wander_72 : decode cX4_wander 72 = .ok (.istore_n 1, 1) := by decide +kernel
theorem dX4_wander_73 : decode cX4_wander 73 = .ok (.iload_n 1, 1) := by decide +kernel
theorem dX4_wander_74 : decode cX4_wander 74 = .ok (.bipush 8, 2) := by decide +kernel
theorem dX4_wander_76 : decode cX4_wander 76 = .ok (.if_icmp .ge 45, 3) := by decide +kernel
theorem dX4_wander_79 : decode cX4_wander 79 = .ok (.aload_n 0, 1) := by decide +kernel
theorem dX4_wander_80 : decode cX4_wander 80 = .ok (.getfield 7, 3) := by decide +kernel
theorem dX4_wander_83 : decode cX4_wander 83 = .ok (.iconst 4, 1) := by decide +kernel
theorem dX4_wander_84 : decode cX4_wander 84 = .ok (.iload_n 1, 1) := by decide +kernel
theorem dX4_wander_85 : decode cX4_wander 85 = .ok (.iadd, 1) := by decide +kernel
theorem dX4_wander_86 : decode cX4_wander 86 = .ok (.dup2, 1) := by decide +kernel
theorem dX4_wander_87 : decode cX4_wander 87 = .ok (.iaload, 1) := by decide +kernel
theorem dX4_wander_88 : decode cX4_wander 88 = .ok (.aload_n 0, 1) := by decide +kernel
theorem dX4_wander_89 : decode cX4_wander 89 = .ok (.getfield 37, 3) := by decide +kernel
theorem dX4_wander_92 : decode cX4_wander 92 = .ok (.iload_n 1, 1) := by decide +kernel
theorem dX4_wander_93 : decode cX4_wander 93 = .ok (.iaload, 1) := by decide +kernel
theorem dX4_wander_94 : decode cX4_wander 94 = .ok (.isub, 1) := by decide +kernel
theorem dX4_wander_95 : decode cX4_wander 95 = .ok (.iastore, 1) := by decide +kernel
theorem dX4_wander_96 : decode cX4_wander 96 = .ok (.aload_n 0, 1) := by decide +kernel
theorem dX4_wander_97 : decode cX4_wander 97 = .ok (.getfield 7, 3) := by decide +kernel
theorem dX4_wander_100 : decode cX4_wander 100 = .ok (.iconst 4, 1) := by decide +kernel
theorem dX4_wander_101 : decode cX4_wander 101 = .ok (.iload_n 1, 1) := by decide +kernel
theorem dX4_wander_102 : decode cX4_wander 102 = .ok (.iadd, 1) := by decide +kernel
theorem dX4_wander_103 : decode cX4_wander 103 = .ok (.iconst 1, 1) := by decide +kernel
theorem dX4_wander_104 : decode cX4_wander 104 = .ok (.iadd, 1) := by decide +kernel
theorem dX4_wander_105 : decode cX4_wander 105 = .ok (.dup2, 1) := by decide +kernel
theorem dX4_wander_106 : decode cX4_wander 106 = .ok (.iaload, 1) := by decide +kernel
theorem dX4_wander_107 : decode cX4_wander 107 = .ok (.aload_n 0, 1) := by decide +kernel
theorem dX4_wander_108 : decode cX4_wander 108 = .ok (.getfield 37, 3) := by decide +kernel
theorem dX4_wander_111 : decode cX4_wander 111 = .ok (.iload_n 1, 1) := by decide +kernel
theorem dX4_wander_112 : decode cX4_wander 112 = .ok (.iaload, 1) := by decide +kernel
theorem dX4_wander_113 : decode cX4_wander 113 = .ok (.iadd, 1) := by decide +kernel
theorem dX4_wander_114 : decode cX4_wander 114 = .ok (.iastore, 1) := by decide +kernel
theorem dX4_wander_115 : decode cX4_wander 115 = .ok (.iinc 1 1, 3) := by decide +kernel
theorem dX4_wander_118 : decode cX4_wander 118 = .ok (.goto (-45), 3) := by decide +kernel
theorem dX4_wander_121 : decode cX4_wander 121 = .ok (.return_, 1) := by decide +kernel
theorem dX4_hourBut_0 : decode cX4_hourBut 0 = .ok (.iconst 0, 1) := by decide +kernel
theorem dX4_hourBut_1 : decode cX4_hourBut 1 = .ok (.istore_n 2, 1) := by decide +kernel
theorem dX4_hourBut_2 : decode cX4_hourBut 2 = .ok (.iload_n 2, 1) := by decide +kernel
theorem dX4_hourBut_3 : decode cX4_hourBut 3 = .ok (.aload_n 0, 1) := by decide +kernel
theorem dX4_hourBut_4 : decode cX4_hourBut 4 = .ok (.getfield 7, 3) := by decide +kernel
theorem dX4_hourBut_7 : decode cX4_hourBut 7 = .ok (.iconst 0, 1) := by decide +kernel
theorem dX4_hourBut_8 : decode cX4_hourBut 8 = .ok (.iaload, 1) := by decide +kernel
theorem dX4_hourBut_9 : decode cX4_hourBut 9 = .ok (.if_icmp .ge 48, 3) := by decide +kernel
theorem dX4_hourBut_12 : decode cX4_hourBut 12 = .ok (.iload_n 1, 1) := by decide +kernel
theorem dX4_hourBut_13 : decode cX4_hourBut 13 = .ok (.iload_n 2, 1) := by decide +kernel
theorem dX4_hourBut_14 : decode cX4_hourBut 14 = .ok (.ishr, 1) := by decide +kernel
theorem dX4_hourBut_15 : decode cX4_hourBut 15 = .ok (.iconst 1, 1) := by decide +kernel
theorem dX4_hourBut_16 : decode cX4_hourBut 16 = .ok (.iand, 1) := by decide +kernel
theorem dX4_hourBut_17 : decode cX4_hourBut 17 = .ok (.iconst 1, 1) := by decide +kernel
theorem dX4_hourBut_18 : decode cX4_hourBut 18 = .ok (.if_icmp .ne 7, 3) := by decide +kernel
theorem dX4_hourBut_21 : decode cX4_hourBut 21 = .ok (.iconst 0, 1) := by decide +kernel
theorem dX4_hourBut_22 : decode cX4_hourBut 22 = .ok (.goto 8, 3) := by decide +kernel
theorem dX4_hourBut_25 : decode cX4_hourBut 25 = .ok (.aload_n 0, 1) := by decide +kernel
theorem dX4_hourBut_26 : decode cX4_hourBut 26 = .ok (.iload_n 2, 1) := by decide +kernel
theorem dX4_hourBut_27 : decode cX4_hourBut 27 = .ok (.invokevirtual 94, 3) := by decide +kernel
theorem dX4_hourBut_30 : decode cX4_hourBut 30 = .ok (.istore_n 3, 1) := by decide +kernel
theorem dX4_hourBut_31 : decode cX4_hourBut 31 = .ok (.iconst 0, 1) := by decide +kernel
theorem dX4_hourBut_32 : decode cX4_hourBut 32 = .ok (.istore 4, 2) := by decide +kernel
theorem dX4_hourBut_34 : decode cX4_hourBut 34 = .ok (.iload 4, 2) := by decide +kernel
theorem dX4_hourBut_36 : decode cX4_hourBut 36 = .ok (.iload_n 3, 1) := by decide +kernel
theorem dX4_hourBut_37 : decode cX4_hourBut 37 = .ok (.if_icmp .ge 14, 3) := by decide +kernel
theorem dX4_hourBut_40 : decode cX4_hourBut 40 = .ok (.aload_n 0, 1) := by decide +kernel
theorem dX4_hourBut_41 : decode cX4_hourBut 41 = .ok (.iload_n 2, 1) := by decide +kernel
theorem dX4_hourBut_42 : decode cX4_hourBut 42 = .ok (.invokevirtual 108, 3) := by decide +kernel
theorem dX4_hourBut_45 : decode cX4_hourBut 45 = .ok (.iinc 4 1, 3) := by decide +kernel
theorem dX4_hourBut_48 : decode cX4_hourBut 48 = .ok (.goto (-14), 3) := by decide +kernel
theorem dX4_hourBut_51 : decode cX4_hourBut 51 = .ok (.iinc 2 1, 3) := by decide +kernel
theorem dX4_hourBut_54 : decode cX4_hourBut 54 = .ok (.goto (-52), 3) := by decide +kernel
theorem dX4_hourBut_57 : decode cX4_hourBut 57 = .ok (.aload_n 0, 1) := by decide +kernel
theorem dX4_hourBut_58 : decode cX4_hourBut 58 = .ok (.invokevirtual 112, 3) := by decide +kernel
theorem dX4_hourBut_61 : decode cX4_hourBut 61 = .ok (.iconst 0, 1) := by decide +kernel
theorem dX4_hourBut_62 : decode cX4_hourBut 62 = .ok (.istore_n 2, 1) := by decide +kernel
theorem dX4_hourBut_63 : decode cX4_hourBut 63 = .ok (.iload_n 2, 1) := by decide +kernel
theorem dX4_hourBut_64 : decode cX4_hourBut 64 = .ok (.bipush 8, 2) := by decide +kernel
theorem dX4_hourBut_66 : decode cX4_hourBut 66 = .ok (.if_icmp .ge 65, 3) := by decide +kernel
theorem dX4_hourBut_69 : decode cX4_hourBut 69 = .ok (.aload_n 0, 1) := by decide +kernel
theorem dX4_hourBut_70 : decode cX4_hourBut 70 = .ok (.getfield 7, 3) := by decide +kernel
theorem dX4_hourBut_73 : decode cX4_hourBut 73 = .ok (.iconst 3, 1) := by decide +kernel
theorem dX4_hourBut_74 : decode cX4_hourBut 74 = .ok (.iaload, 1) := by decide +kernel
theorem dX4_hourBut_75 : decode cX4_hourBut 75 = .ok (.bipush 7, 2) := by decide +kernel
theorem dX4_hourBut_77 : decode cX4_hourBut 77 = .ok (.if_icmp .lt 20, 3) := by decide +kernel
theorem dX4_hourBut_80 : decode cX4_hourBut 80 = .ok (.aload_n 0, 1) := by decide +kernel
theorem dX4_hourBut_81 : decode cX4_hourBut 81 = .ok (.getfield 7, 3) := by decide +kernel
theorem dX4_hourBut_84 : decode cX4_hourBut 84 = .ok (.bipush 13, 2) := by decide +kernel
theorem dX4_hourBut_86 : decode cX4_hourBut 86 = .ok (.iload_n 2, 1) := by decide +kernel
theorem dX4_hourBut_87 : decode cX4_hourBut 87 = .ok (.iadd, 1) := by decide +kernel
theorem dX4_hourBut_88 : decode cX4_hourBut 88 = .ok (.iaload, 1) := by decide +kernel
theorem dX4_hourBut_89 : decode cX4_hourBut 89 = .ok (.iconst 3, 1) := by decide +kernel
theorem dX4_hourBut_90 : decode cX4_hourBut 90 = .ok (.if_icmp .eq 7, 3) := by decide +kernel
theorem dX4_hourBut_93 : decode cX4_hourBut 93 = .ok (.iconst 1, 1) := by decide +kernel
theorem dX4_hourBut_94 : decode cX4_hourBut 94 = .ok (.goto 4, 3) := by decide +kernel
theorem dX4_hourBut_97 : decode cX4_hourBut 97 = .ok (.iconst 0, 1) := by decide +kernel
theorem dX4_hourBut_98 : decode cX4_hourBut 98 = .ok (.istore_n 3, 1) := by decide +kernel
theorem dX4_hourBut_99 : decode cX4_hourBut 99 = .ok (.aload_n 0, 1) := by decide +kernel
theorem dX4_hourBut_100 : decode cX4_hourBut 100 = .ok (.getfield 7, 3) := by decide +kernel
theorem dX4_hourBut_103 : decode cX4_hourBut 103 = .ok (.bipush 13, 2) := by decide +kernel
theorem dX4_hourBut_105 : decode cX4_hourBut 105 = .ok (.iload_n 2, 1) := by decide +kernel
theorem dX4_hourBut_106 : decode cX4_hourBut 106 = .ok (.iadd, 1) := by decide +kernel
theorem dX4_hourBut_107 : decode cX4_hourBut 107 = .ok (.iload_n 3, 1) := by decide +kernel
theorem dX4_hourBut_108 : decode cX4_hourBut 108 = .ok (.ifCond .eq 7, 3) := by decide +kernel
theorem dX4_hourBut_111 : decode cX4_hourBut 111 = .ok (.iconst 0, 1) := by decide +kernel
theorem dX4_hourBut_112 : decode cX4_hourBut 112 = .ok (.goto 12, 3) := by decide +kernel
theorem dX4_hourBut_115 : decode cX4_hourBut 115 = .ok (.aload_n 0, 1) := by decide +kernel
theorem dX4_hourBut_116 : decode cX4_hourBut 116 = .ok (.getfield 7, 3) := by decide +kernel
theorem dX4_hourBut_119 : decode cX4_hourBut 119 = .ok (.bipush 13, 2) := by decide +kernel
theorem dX4_hourBut_121 : decode cX4_hourBut 121 = .ok (.iload_n 2, 1) := by decide +kernel
theorem dX4_hourBut_122 : decode cX4_hourBut 122 = .ok (.iadd, 1) := by decide +kernel
theorem dX4_hourBut_123 : decode cX4_hourBut 123 = .ok (.iaload, 1) := by decide +kernel
theorem dX4_hourBut_124 : decode cX4_hourBut 124 = .ok (.iastore, 1) := by decide +kernel
theorem dX4_hourBut_125 : decode cX4_hourBut 125 = .ok (.iinc 2 1, 3) := by decide +kernel
theorem dX4_hourBut_128 : decode cX4_hourBut 128 = .ok (.goto (-65), 3) := by decide +kernel
theorem dX4_hourBut_131 : decode cX4_hourBut 131 = .ok (.aload_n 0, 1) := by decide +kernel
theorem dX4_hourBut_132 : decode cX4_hourBut 132 = .ok (.getfield 7, 3) := by decide +kernel
theorem dX4_hourBut_135 : decode cX4_hourBut 135 = .ok (.iconst 1, 1) := by decide +kernel
theorem dX4_hourBut_136 : decode cX4_hourBut 136 = .ok (.dup2, 1) := by decide +kernel
theorem dX4_hourBut_137 : decode cX4_hourBut 137 = .ok (.iaload, 1) := by decide +kernel
theorem dX4_hourBut_138 : decode cX4_hourBut 138 = .ok (.iconst 1, 1) := by decide +kernel
theorem dX4_hourBut_139 : decode cX4_hourBut 139 = .ok (.iadd, 1) := by decide +kernel
theorem dX4_hourBut_140 : decode cX4_hourBut 140 = .ok (.iastore, 1) := by decide +kernel
theorem dX4_hourBut_141 : decode cX4_hourBut 141 = .ok (.return_, 1) := by decide +kernel
theorem dX4_goes_0 : decode cX4_goes 0 = .ok (.iconst 0, 1) := by decide +kernel
theorem dX4_goes_1 : decode cX4_goes 1 = .ok (.istore_n 2, 1) := by decide +kernel
theorem dX4_goes_2 : decode cX4_goes 2 = .ok (.iload_n 2, 1) := by decide +kernel
theorem dX4_goes_3 : decode cX4_goes 3 = .ok (.iload_n 1, 1) := by decide +kernel
theorem dX4_goes_4 : decode cX4_goes 4 = .ok (.if_icmp .ge 14, 3) := by decide +kernel
theorem dX4_goes_7 : decode cX4_goes 7 = .ok (.aload_n 0, 1) := by decide +kernel
theorem dX4_goes_8 : decode cX4_goes 8 = .ok (.iconst 0, 1) := by decide +kernel
theorem dX4_goes_9 : decode cX4_goes 9 = .ok (.invokevirtual 115, 3) := by decide +kernel
theorem dX4_goes_12 : decode cX4_goes 12 = .ok (.iinc 2 1, 3) := by decide +kernel
theorem dX4_goes_15 : decode cX4_goes 15 = .ok (.goto (-13), 3) := by decide +kernel
theorem dX4_goes_18 : decode cX4_goes 18 = .ok (.return_, 1) := by decide +kernel
theorem dX4_allStand_0 : decode cX4_allStand 0 = .ok (.iconst 0, 1) := by decide +kernel
theorem dX4_allStand_1 : decode cX4_allStand 1 = .ok (.istore_n 1, 1) := by decide +kernel
theorem dX4_allStand_2 : decode cX4_allStand 2 = .ok (.bipush 7, 2) := by decide +kernel
theorem dX4_allStand_4 : decode cX4_allStand 4 = .ok (.istore_n 2, 1) := by decide +kernel
theorem dX4_allStand_5 : decode cX4_allStand 5 = .ok (.iload_n 2, 1) := by decide +kernel
theorem dX4_allStand_6 : decode cX4_allStand 6 = .ok (.ifCond .lt 23, 3) := by decide +kernel
theorem dX4_allStand_9 : decode cX4_allStand 9 = .ok (.iconst 4, 1) := by decide +kernel
theorem dX4_allStand_10 : decode cX4_allStand 10 = .ok (.iload_n 1, 1) := by decide +kernel
theorem dX4_allStand_11 : decode cX4_allStand 11 = .ok (.imul, 1) := by decide +kernel
theorem dX4_allStand_12 : decode cX4_allStand 12 = .ok (.aload_n 0, 1) := by decide +kernel
theorem dX4_allStand_13 : decode cX4_allStand 13 = .ok (.getfield 7, 3) := by decide +kernel
theorem dX4_allStand_16 : decode cX4_allStand 16 = .ok (.bipush 13, 2) := by decide +kernel
theorem dX4_allStand_18 : decode cX4_allStand 18 = .ok (.iload_n 2, 1) := by decide +kernel
theorem dX4_allStand_19 : decode cX4_allStand 19 = .ok (.iadd, 1) := by decide +kernel
theorem dX4_allStand_20 : decode cX4_allStand 20 = .ok (.iaload, 1) := by decide +kernel
theorem dX4_allStand_21 : decode cX4_allStand 21 = .ok (.iadd, 1) := by decide +kernel
theorem dX4_allStand_22 : decode cX4_allStand 22 = .ok (.istore_n 1, 1) := by decide +kernel
theorem dX4_allStand_23 : decode cX4_allStand 23 = .ok (.iinc 2 (-1), 3) := by decide +kernel
theorem dX4_allStand_26 : decode cX4_allStand 26 = .ok (.goto (-21), 3) := by decide +kernel
theorem dX4_allStand_29 : decode cX4_allStand 29 = .ok (.iload_n 1, 1) := by decide +kernel
theorem dX4_allStand_30 : decode cX4_allStand 30 = .ok (.ireturn, 1) := by decide +kernel
theorem dX4_go_0 : decode cX4_go 0 = .ok (.iload_n 1, 1) := by decide +kernel
theorem dX4_go_1 : decode cX4_go 1 = .ok (.i2l, 1) := by decide +kernel
theorem dX4_go_2 : decode cX4_go 2 = .ok (.lconst 1, 1) := by decide +kernel
theorem dX4_go_3 : decode cX4_go 3 = .ok (.ldc2_w 118, 3) := by decide +kernel
theorem dX4_go_6 : decode cX4_go 6 = .ok (.invokestatic 43, 3) := by decide +kernel
theorem dX4_go_9 : decode cX4_go 9 = .ok (.ifCond .ne 10, 3) := by decide +kernel
theorem dX4_go_12 : decode cX4_go 12 = .ok (.aload_n 0, 1) := by decide +kernel
theorem dX4_go_13 : decode cX4_go 13 = .ok (.ldc 40, 2) := by decide +kernel
theorem dX4_go_15 : decode cX4_go 15 = .ok (.invokevirtual 48, 3) := by decide +kernel
theorem dX4_go_18 : decode cX4_go 18 = .ok (.ireturn, 1) := by decide +kernel
theorem dX4_go_19 : decode cX4_go 19 = .ok (.aload_n 0, 1) := by decide +kernel
theorem dX4_go_20 : decode cX4_go 20 = .ok (.getfield 7, 3) := by decide +kernel
theorem dX4_go_23 : decode cX4_go 23 = .ok (.iconst 1, 1) := by decide +kernel
theorem dX4_go_24 : decode cX4_go 24 = .ok (.iaload, 1) := by decide +kernel
theorem dX4_go_25 : decode cX4_go 25 = .ok (.iload_n 1, 1) := by decide +kernel
theorem dX4_go_26 : decode cX4_go 26 = .ok (.iadd, 1) := by decide +kernel
theorem dX4_go_27 : decode cX4_go 27 = .ok (.ldc 120, 2) := by decide +kernel
theorem dX4_go_29 : decode cX4_go 29 = .ok (.if_icmp .le 10, 3) := by decide +kernel
theorem dX4_go_32 : decode cX4_go 32 = .ok (.aload_n 0, 1) := by decide +kernel
theorem dX4_go_33 : decode cX4_go 33 = .ok (.ldc 121, 2) := by decide +kernel
theorem dX4_go_35 : decode cX4_go 35 = .ok (.invokevirtual 48, 3) := by decide +kernel
theorem dX4_go_38 : decode cX4_go 38 = .ok (.ireturn, 1) := by decide +kernel
theorem dX4_go_39 : decode cX4_go 39 = .ok (.aload_n 0, 1) := by decide +kernel
theorem dX4_go_40 : decode cX4_go 40 = .ok (.iload_n 1, 1) := by decide +kernel
theorem dX4_go_41 : decode cX4_go 41 = .ok (.invokevirtual 122, 3) := by decide +kernel
theorem dX4_go_44 : decode cX4_go 44 = .ok (.aload_n 0, 1) := by decide +kernel
theorem dX4_go_45 : decode cX4_go 45 = .ok (.invokevirtual 125, 3) := by decide +kernel
theorem dX4_go_48 : decode cX4_go 48 = .ok (.ireturn, 1) := by decide +kernel
theorem dX4_beastsAll_0 : decode cX4_beastsAll 0 = .ok (.iconst 0, 1) := by decide +kernel
theorem dX4_beastsAll_1 : decode cX4_beastsAll 1 = .ok (.istore_n 1, 1) := by decide +kernel
theorem dX4_beastsAll_2 : decode cX4_beastsAll 2 = .ok (.iconst 0, 1) := by decide +kernel
theorem dX4_beastsAll_3 : decode cX4_beastsAll 3 = .ok (.istore_n 2, 1) := by decide +kernel
theorem dX4_beastsAll_4 : decode cX4_beastsAll 4 = .ok (.iload_n 2, 1) := by decide +kernel
theorem dX4_beastsAll_5 : decode cX4_beastsAll 5 = .ok (.bipush 9, 2) := by decide +kernel
theorem dX4_beastsAll_7 : decode cX4_beastsAll 7 = .ok (.if_icmp .ge 20, 3) := by decide +kernel
theorem dX4_beastsAll_10 : decode cX4_beastsAll 10 = .ok (.iload_n 1, 1) := by decide +kernel
theorem dX4_beastsAll_11 : decode cX4_beastsAll 11 = .ok (.aload_n 0, 1) := by decide +kernel
theorem dX4_beastsAll_12 : decode cX4_beastsAll 12 = .ok (.getfield 7, 3) := by decide +kernel
theorem dX4_beastsAll_15 : decode cX4_beastsAll 15 = .ok (.iconst 4, 1) := by decide +kernel
theorem dX4_beastsAll_16 : decode cX4_beastsAll 16 = .ok (.iload_n 2, 1) := by decide +kernel
theorem dX4_beastsAll_17 : decode cX4_beastsAll 17 = .ok (.iadd, 1) := by decide +kernel
theorem dX4_beastsAll_18 : decode cX4_beastsAll 18 = .ok (.iaload, 1) := by decide +kernel
theorem dX4_beastsAll_19 : decode cX4_beastsAll 19 = .ok (.iadd, 1) := by decide +kernel
theorem dX4_beastsAll_20 : decode cX4_beastsAll 20 = .ok (.istore_n 1, 1) := by decide +kernel
theorem dX4_beastsAll_21 : decode cX4_beastsAll 21 = .ok (.iinc 2 1, 3) := by decide +kernel
theorem dX4_beastsAll_24 : decode cX4_beastsAll 24 = .ok (.goto (-20), 3) := by decide +kernel
theorem dX4_beastsAll_27 : decode cX4_beastsAll 27 = .ok (.iload_n 1, 1) := by decide +kernel
theorem dX4_beastsAll_28 : decode cX4_beastsAll 28 = .ok (.ireturn, 1) := by decide +kernel
theorem dX4_notShut_0 : decode cX4_notShut 0 = .ok (.iconst 0, 1) := by decide +kernel
theorem dX4_notShut_1 : decode cX4_notShut 1 = .ok (.istore_n 1, 1) := by decide +kernel
theorem dX4_notShut_2 : decode cX4_notShut 2 = .ok (.iconst 0, 1) := by decide +kernel
theorem dX4_notShut_3 : decode cX4_notShut 3 = .ok (.istore_n 2, 1) := by decide +kernel
theorem dX4_notShut_4 : decode cX4_notShut 4 = .ok (.iload_n 2, 1) := by decide +kernel
theorem dX4_notShut_5 : decode cX4_notShut 5 = .ok (.bipush 8, 2) := by decide +kernel
theorem dX4_notShut_7 : decode cX4_notShut 7 = .ok (.if_icmp .ge 31, 3) := by decide +kernel
theorem dX4_notShut_10 : decode cX4_notShut 10 = .ok (.iload_n 1, 1) := by decide +kernel
theorem dX4_notShut_11 : decode cX4_notShut 11 = .ok (.aload_n 0, 1) := by decide +kernel
theorem dX4_notShut_12 : decode cX4_notShut 12 = .ok (.getfield 7, 3) := by decide +kernel
theorem dX4_notShut_15 : decode cX4_notShut 15 = .ok (.bipush 13, 2) := by decide +kernel
theorem dX4_notShut_17 : decode cX4_notShut 17 = .ok (.iload_n 2, 1) := by decide +kernel
theorem dX4_notShut_18 : decode cX4_notShut 18 = .ok (.iadd, 1) := by decide +kernel
theorem dX4_notShut_19 : decode cX4_notShut 19 = .ok (.iaload, 1) := by decide +kernel
theorem dX4_notShut_20 : decode cX4_notShut 20 = .ok (.ifCond .ne 7, 3) := by decide +kernel
theorem dX4_notShut_23 : decode cX4_notShut 23 = .ok (.iconst 0, 1) := by decide +kernel
theorem dX4_notShut_24 : decode cX4_notShut 24 = .ok (.goto 6, 3) := by decide +kernel
theorem dX4_notShut_27 : decode cX4_notShut 27 = .ok (.iconst 1, 1) := by decide +kernel
theorem dX4_notShut_28 : decode cX4_notShut 28 = .ok (.iload_n 2, 1) := by decide +kernel
theorem dX4_notShut_29 : decode cX4_notShut 29 = .ok (.ishl, 1) := by decide +kernel
theorem dX4_notShut_30 : decode cX4_notShut 30 = .ok (.ior, 1) := by decide +kernel
theorem dX4_notShut_31 : decode cX4_notShut 31 = .ok (.istore_n 1, 1) := by decide +kernel
theorem dX4_notShut_32 : decode cX4_notShut 32 = .ok (.iinc 2 1, 3) := by decide +kernel
theorem dX4_notShut_35 : decode cX4_notShut 35 = .ok (.goto (-31), 3) := by decide +kernel
theorem dX4_notShut_38 : decode cX4_notShut 38 = .ok (.iload_n 1, 1) := by decide +kernel
theorem dX4_notShut_39 : decode cX4_notShut 39 = .ok (.ireturn, 1) := by decide +kernel
theorem dX4_passedAll_0 : decode cX4_passedAll 0 = .ok (.iconst 0, 1) := by decide +kernel
theorem dX4_passedAll_1 : decode cX4_passedAll 1 = .ok (.istore_n 1, 1) := by decide +kernel
theorem dX4_passedAll_2 : decode cX4_passedAll 2 = .ok (.iconst 0, 1) := by decide +kernel
theorem dX4_passedAll_3 : decode cX4_passedAll 3 = .ok (.istore_n 2, 1) := by decide +kernel
theorem dX4_passedAll_4 : decode cX4_passedAll 4 = .ok (.iload_n 2, 1) := by decide +kernel
theorem dX4_passedAll_5 : decode cX4_passedAll 5 = .ok (.aload_n 0, 1) := by decide +kernel
theorem dX4_passedAll_6 : decode cX4_passedAll 6 = .ok (.getfield 7, 3) := by decide +kernel
theorem dX4_passedAll_9 : decode cX4_passedAll 9 = .ok (.iconst 0, 1) := by decide +kernel
theorem dX4_passedAll_10 : decode cX4_passedAll 10 = .ok (.iaload, 1) := by decide +kernel
theorem dX4_passedAll_11 : decode cX4_passedAll 11 = .ok (.if_icmp .ge 18, 3) := by decide +kernel
theorem dX4_passedAll_14 : decode cX4_passedAll 14 = .ok (.iload_n 1, 1) := by decide +kernel
theorem dX4_passedAll_15 : decode cX4_passedAll 15 = .ok (.aload_n 0, 1) := by decide +kernel
theorem dX4_passedAll_16 : decode cX4_passedAll 16 = .ok (.iload_n 2, 1) := by decide +kernel
theorem dX4_passedAll_17 : decode cX4_passedAll 17 = .ok (.iconst 4, 1) := by decide +kernel
theorem dX4_passedAll_18 : decode cX4_passedAll 18 = .ok (.invokevirtual 62, 3) := by decide +kernel
theorem dX4_passedAll_21 : decode cX4_passedAll 21 = .ok (.iadd, 1) := by decide +kernel
theorem dX4_passedAll_22 : decode cX4_passedAll 22 = .ok (.istore_n 1, 1) := by decide +kernel
theorem dX4_passedAll_23 : decode cX4_passedAll 23 = .ok (.iinc 2 1, 3) := by decide +kernel
theorem dX4_passedAll_26 : decode cX4_passedAll 26 = .ok (.goto (-22), 3) := by decide +kernel
theorem dX4_passedAll_29 : decode cX4_passedAll 29 = .ok (.iload_n 1, 1) := by decide +kernel
theorem dX4_passedAll_30 : decode cX4_passedAll 30 = .ok (.ireturn, 1) := by decide +kernel
theorem dX4_fullest_0 : decode cX4_fullest 0 = .ok (.iconst 0, 1) := by decide +kernel
theorem dX4_fullest_1 : decode cX4_fullest 1 = .ok (.istore_n 1, 1) := by decide +kernel
theorem dX4_fullest_2 : decode cX4_fullest 2 = .ok (.iconst 1, 1) := by decide +kernel
theorem dX4_fullest_3 : decode cX4_fullest 3 = .ok (.istore_n 2, 1) := by decide +kernel
theorem dX4_fullest_4 : decode cX4_fullest 4 = .ok (.iload_n 2, 1) := by decide +kernel
theorem dX4_fullest_5 : decode cX4_fullest 5 = .ok (.bipush 9, 2) := by decide +kernel
theorem dX4_fullest_7 : decode cX4_fullest 7 = .ok (.if_icmp .ge 34, 3) := by decide +kernel
theorem dX4_fullest_10 : decode cX4_fullest 10 = .ok (.aload_n 0, 1) := by decide +kernel
theorem dX4_fullest_11 : decode cX4_fullest 11 = .ok (.getfield 7, 3) := by decide +kernel
theorem dX4_fullest_14 : decode cX4_fullest 14 = .ok (.iconst 4, 1) := by decide +kernel
theorem dX4_fullest_15 : decode cX4_fullest 15 = .ok (.iload_n 2, 1) := by decide +kernel
theorem dX4_fullest_16 : decode cX4_fullest 16 = .ok (.iadd, 1) := by decide +kernel
theorem dX4_fullest_17 : decode cX4_fullest 17 = .ok (.iaload, 1) := by decide +kernel
theorem dX4_fullest_18 : decode cX4_fullest 18 = .ok (.aload_n 0, 1) := by decide +kernel
theorem dX4_fullest_19 : decode cX4_fullest 19 = .ok (.getfield 7, 3) := by decide +kernel
theorem dX4_fullest_22 : decode cX4_fullest 22 = .ok (.iconst 4, 1) := by decide +kernel
theorem dX4_fullest_23 : decode cX4_fullest 23 = .ok (.iload_n 1, 1) := by decide +kernel
theorem dX4_fullest_24 : decode cX4_fullest 24 = .ok (.iadd, 1) := by decide +kernel
theorem dX4_fullest_25 : decode cX4_fullest 25 = .ok (.iaload, 1) := by decide +kernel
theorem dX4_fullest_26 : decode cX4_fullest 26 = .ok (.if_icmp .le 7, 3) := by decide +kernel
theorem dX4_fullest_29 : decode cX4_fullest 29 = .ok (.iload_n 2, 1) := by decide +kernel
theorem dX4_fullest_30 : decode cX4_fullest 30 = .ok (.goto 4, 3) := by decide +kernel
theorem dX4_fullest_33 : decode cX4_fullest 33 = .ok (.iload_n 1, 1) := by decide +kernel
theorem dX4_fullest_34 : decode cX4_fullest 34 = .ok (.istore_n 1, 1) := by decide +kernel
theorem dX4_fullest_35 : decode cX4_fullest 35 = .ok (.iinc 2 1, 3) := by decide +kernel
theorem dX4_fullest_38 : decode cX4_fullest 38 = .ok (.goto (-34), 3) := by decide +kernel
theorem dX4_fullest_41 : decode cX4_fullest 41 = .ok (.iload_n 1, 1) := by decide +kernel
theorem dX4_fullest_42 : decode cX4_fullest 42 = .ok (.ireturn, 1) := by decide +kernel
theorem dX4_now_0 : decode cX4_now 0 = .ok (.iload_n 1, 1) := by decide +kernel
theorem dX4_now_1 : decode cX4_now 1 = .ok (.tableswitch 71 0 5 #[39, 46, 51, 56, 61, 66], 39) := by decide +kernel
theorem dX4_now_40 : decode cX4_now 40 = .ok (.aload_n 0, 1) := by decide +kernel
theorem dX4_now_41 : decode cX4_now 41 = .ok (.getfield 7, 3) := by decide +kernel
theorem dX4_now_44 : decode cX4_now 44 = .ok (.iconst 1, 1) := by decide +kernel
theorem dX4_now_45 : decode cX4_now 45 = .ok (.iaload, 1) := by decide +kernel
theorem dX4_now_46 : decode cX4_now 46 = .ok (.ireturn, 1) := by decide +kernel
theorem dX4_now_47 : decode cX4_now 47 = .ok (.aload_n 0, 1) := by decide +kernel
theorem dX4_now_48 : decode cX4_now 48 = .ok (.invokevirtual 129, 3) := by decide +kernel
theorem dX4_now_51 : decode cX4_now 51 = .ok (.ireturn, 1) := by decide +kernel
theorem dX4_now_52 : decode cX4_now 52 = .ok (.aload_n 0, 1) := by decide +kernel
theorem dX4_now_53 : decode cX4_now 53 = .ok (.invokevirtual 132, 3) := by decide +kernel
theorem dX4_now_56 : decode cX4_now 56 = .ok (.ireturn, 1) := by decide +kernel
theorem dX4_now_57 : decode cX4_now 57 = .ok (.aload_n 0, 1) := by decide +kernel
theorem dX4_now_58 : decode cX4_now 58 = .ok (.invokevirtual 125, 3) := by decide +kernel
theorem dX4_now_61 : decode cX4_now 61 = .ok (.ireturn, 1) := by decide +kernel
theorem dX4_now_62 : decode cX4_now 62 = .ok (.aload_n 0, 1) := by decide +kernel
theorem dX4_now_63 : decode cX4_now 63 = .ok (.invokevirtual 135, 3) := by decide +kernel
theorem dX4_now_66 : decode cX4_now 66 = .ok (.ireturn, 1) := by decide +kernel
theorem dX4_now_67 : decode cX4_now 67 = .ok (.aload_n 0, 1) := by decide +kernel
theorem dX4_now_68 : decode cX4_now 68 = .ok (.invokevirtual 138, 3) := by decide +kernel
theorem dX4_now_71 : decode cX4_now 71 = .ok (.ireturn, 1) := by decide +kernel
theorem dX4_now_72 : decode cX4_now 72 = .ok (.aload_n 0, 1) := by decide +kernel
theorem dX4_now_73 : decode cX4_now 73 = .ok (.ldc 40, 2) := by decide +kernel
theorem dX4_now_75 : decode cX4_now 75 = .ok (.invokevirtual 48, 3) := by decide +kernel
theorem dX4_now_78 : decode cX4_now 78 = .ok (.ireturn, 1) := by decide +kernel
theorem dX4_thenAt_0 : decode cX4_thenAt 0 = .ok (.aload_n 0, 1) := by decide +kernel
theorem dX4_thenAt_1 : decode cX4_thenAt 1 = .ok (.getfield 7, 3) := by decide +kernel
theorem dX4_thenAt_4 : decode cX4_thenAt 4 = .ok (.aload_n 0, 1) := by decide +kernel
theorem dX4_thenAt_5 : decode cX4_thenAt 5 = .ok (.getfield 19, 3) := by decide +kernel
theorem dX4_thenAt_8 : decode cX4_thenAt 8 = .ok (.invokestatic 141, 3) := by decide +kernel
theorem dX4_thenAt_11 : decode cX4_thenAt 11 = .ok (.aload_n 0, 1) := by decide +kernel
theorem dX4_thenAt_12 : decode cX4_thenAt 12 = .ok (.iload_n 2, 1) := by decide +kernel
theorem dX4_thenAt_13 : decode cX4_thenAt 13 = .ok (.invokevirtual 122, 3) := by decide +kernel
theorem dX4_thenAt_16 : decode cX4_thenAt 16 = .ok (.aload_n 0, 1) := by decide +kernel
theorem dX4_thenAt_17 : decode cX4_thenAt 17 = .ok (.getfield 7, 3) := by decide +kernel
theorem dX4_thenAt_20 : decode cX4_thenAt 20 = .ok (.iload_n 1, 1) := by decide +kernel
theorem dX4_thenAt_21 : decode cX4_thenAt 21 = .ok (.iaload, 1) := by decide +kernel
theorem dX4_thenAt_22 : decode cX4_thenAt 22 = .ok (.istore_n 3, 1) := by decide +kernel
theorem dX4_thenAt_23 : decode cX4_thenAt 23 = .ok (.aload_n 0, 1) := by decide +kernel
theorem dX4_thenAt_24 : decode cX4_thenAt 24 = .ok (.getfield 19, 3) := by decide +kernel
theorem dX4_thenAt_27 : decode cX4_thenAt 27 = .ok (.aload_n 0, 1) := by decide +kernel
theorem dX4_thenAt_28 : decode cX4_thenAt 28 = .ok (.getfield 7, 3) := by decide +kernel
theorem dX4_thenAt_31 : decode cX4_thenAt 31 = .ok (.invokestatic 141, 3) := by decide +kernel
theorem dX4_thenAt_34 : decode cX4_thenAt 34 = .ok (.iload_n 3, 1) := by decide +kernel
theorem dX4_thenAt_35 : decode cX4_thenAt 35 = .ok (.ireturn, 1) := by decide +kernel
theorem dX4_ahead_0 : decode cX4_ahead 0 = .ok (.iload_n 1, 1) := by decide +kernel
theorem dX4_ahead_1 : decode cX4_ahead 1 = .ok (.invokestatic 52, 3) := by decide +kernel
theorem dX4_ahead_4 : decode cX4_ahead 4 = .ok (.ifCond .eq 26, 3) := by decide +kernel
theorem dX4_ahead_7 : decode cX4_ahead 7 = .ok (.iload_n 2, 1) := by decide +kernel
theorem dX4_ahead_8 : decode cX4_ahead 8 = .ok (.i2l, 1) := by decide +kernel
theorem dX4_ahead_9 : decode cX4_ahead 9 = .ok (.lconst 0, 1) := by decide +kernel
theorem dX4_ahead_10 : decode cX4_ahead 10 = .ok (.ldc2_w 145, 3) := by decide +kernel
theorem dX4_ahead_13 : decode cX4_ahead 13 = .ok (.invokestatic 43, 3) := by decide +kernel
theorem dX4_ahead_16 : decode cX4_ahead 16 = .ok (.ifCond .eq 14, 3) := by decide +kernel
theorem dX4_ahead_19 : decode cX4_ahead 19 = .ok (.aload_n 0, 1) := by decide +kernel
theorem dX4_ahead_20 : decode cX4_ahead 20 = .ok (.iconst 4, 1) := by decide +kernel
theorem dX4_ahead_21 : decode cX4_ahead 21 = .ok (.iload_n 1, 1) := by decide +kernel
theorem dX4_ahead_22 : decode cX4_ahead 22 = .ok (.iadd, 1) := by decide +kernel
theorem dX4_ahead_23 : decode cX4_ahead 23 = .ok (.iload_n 2, 1) := by decide +kernel
theorem dX4_ahead_24 : decode cX4_ahead 24 = .ok (.invokevirtual 147, 3) := by decide +kernel
theorem dX4_ahead_27 : decode cX4_ahead 27 = .ok (.goto 9, 3) := by decide +kernel
theorem dX4_ahead_30 : decode cX4_ahead 30 = .ok (.aload_n 0, 1) := by decide +kernel
theorem dX4_ahead_31 : decode cX4_ahead 31 = .ok (.ldc 40, 2) := by decide +kernel
theorem dX4_ahead_33 : decode cX4_ahead 33 = .ok (.invokevirtual 48, 3) := by decide +kernel
theorem dX4_ahead_36 : decode cX4_ahead 36 = .ok (.ireturn, 1) := by decide +kernel
theorem dX4_stand_0 : decode cX4_stand 0 = .ok (.iload_n 1, 1) := by decide +kernel
theorem dX4_stand_1 : decode cX4_stand 1 = .ok (.invokestatic 68, 3) := by decide +kernel
theorem dX4_stand_4 : decode cX4_stand 4 = .ok (.ifCond .eq 27, 3) := by decide +kernel
theorem dX4_stand_7 : decode cX4_stand 7 = .ok (.iload_n 2, 1) := by decide +kernel
theorem dX4_stand_8 : decode cX4_stand 8 = .ok (.i2l, 1) := by decide +kernel
theorem dX4_stand_9 : decode cX4_stand 9 = .ok (.lconst 0, 1) := by decide +kernel
theorem dX4_stand_10 : decode cX4_stand 10 = .ok (.ldc2_w 145, 3) := by decide +kernel
theorem dX4_stand_13 : decode cX4_stand 13 = .ok (.invokestatic 43, 3) := by decide +kernel
theorem dX4_stand_16 : decode cX4_stand 16 = .ok (.ifCond .eq 15, 3) := by decide +kernel
theorem dX4_stand_19 : decode cX4_stand 19 = .ok (.aload_n 0, 1) := by decide +kernel
theorem dX4_stand_20 : decode cX4_stand 20 = .ok (.bipush 13, 2) := by decide +kernel
theorem dX4_stand_22 : decode cX4_stand 22 = .ok (.iload_n 1, 1) := by decide +kernel
theorem dX4_stand_23 : decode cX4_stand 23 = .ok (.iadd, 1) := by decide +kernel
theorem dX4_stand_24 : decode cX4_stand 24 = .ok (.iload_n 2, 1) := by decide +kernel
theorem dX4_stand_25 : decode cX4_stand 25 = .ok (.invokevirtual 147, 3) := by decide +kernel
theorem dX4_stand_28 : decode cX4_stand 28 = .ok (.goto 9, 3) := by decide +kernel
theorem dX4_stand_31 : decode cX4_stand 31 = .ok (.aload_n 0, 1) := by decide +kernel
theorem dX4_stand_32 : decode cX4_stand 32 = .ok (.ldc 40, 2) := by decide +kernel
theorem dX4_stand_34 : decode cX4_stand 34 = .ok (.invokevirtual 48, 3) := by decide +kernel
theorem dX4_stand_37 : decode cX4_stand 37 = .ok (.ireturn, 1) := by decide +kernel
theorem dX4_where_0 : decode cX4_where 0 = .ok (.aload_n 0, 1) := by decide +kernel
theorem dX4_where_1 : decode cX4_where 1 = .ok (.iload_n 1, 1) := by decide +kernel
theorem dX4_where_2 : decode cX4_where 2 = .ok (.invokevirtual 89, 3) := by decide +kernel
theorem dX4_where_5 : decode cX4_where 5 = .ok (.ifCond .eq 29, 3) := by decide +kernel
theorem dX4_where_8 : decode cX4_where 8 = .ok (.iload_n 2, 1) := by decide +kernel
theorem dX4_where_9 : decode cX4_where 9 = .ok (.iconst 1, 1) := by decide +kernel
theorem dX4_where_10 : decode cX4_where 10 = .ok (.if_icmp .eq 8, 3) := by decide +kernel
theorem dX4_where_13 : decode cX4_where 13 = .ok (.iload_n 2, 1) := by decide +kernel
theorem dX4_where_14 : decode cX4_where 14 = .ok (.iconst 3, 1) := by decide +kernel
theorem dX4_where_15 : decode cX4_where 15 = .ok (.if_icmp .ne 19, 3) := by decide +kernel
theorem dX4_where_18 : decode cX4_where 18 = .ok (.iload_n 3, 1) := by decide +kernel
theorem dX4_where_19 : decode cX4_where 19 = .ok (.i2l, 1) := by decide +kernel
theorem dX4_where_20 : decode cX4_where 20 = .ok (.lconst 0, 1) := by decide +kernel
theorem dX4_where_21 : decode cX4_where 21 = .ok (.ldc2_w 145, 3) := by decide +kernel
theorem dX4_where_24 : decode cX4_where 24 = .ok (.invokestatic 43, 3) := by decide +kernel
theorem dX4_where_27 : decode cX4_where 27 = .ok (.ifCond .eq 7, 3) := by decide +kernel
theorem dX4_where_30 : decode cX4_where 30 = .ok (.iconst 1, 1) := by decide +kernel
theorem dX4_where_31 : decode cX4_where 31 = .ok (.goto 4, 3) := by decide +kernel
theorem dX4_where_34 : decode cX4_where 34 = .ok (.iconst 0, 1) := by decide +kernel
theorem dX4_where_35 : decode cX4_where 35 = .ok (.istore 4, 2) := by decide +kernel
theorem dX4_where_37 : decode cX4_where 37 = .ok (.iload 4, 2) := by decide +kernel
theorem dX4_where_39 : decode cX4_where 39 = .ok (.ifCond .eq 16, 3) := by decide +kernel
theorem dX4_where_42 : decode cX4_where 42 = .ok (.aload_n 0, 1) := by decide +kernel
theorem dX4_where_43 : decode cX4_where 43 = .ok (.iload_n 1, 1) := by decide +kernel
theorem dX4_where_44 : decode cX4_where 44 = .ok (.iload_n 2, 1) := by decide +kernel
theorem dX4_where_45 : decode cX4_where 45 = .ok (.invokestatic 76, 3) := by decide +kernel
theorem dX4_where_48 : decode cX4_where 48 = .ok (.iload_n 3, 1) := by decide +kernel
theorem dX4_where_49 : decode cX4_where 49 = .ok (.invokevirtual 147, 3) := by decide +kernel
theorem dX4_where_52 : decode cX4_where 52 = .ok (.goto 9, 3) := by decide +kernel
theorem dX4_where_55 : decode cX4_where 55 = .ok (.aload_n 0, 1) := by decide +kernel
theorem dX4_where_56 : decode cX4_where 56 = .ok (.ldc 40, 2) := by decide +kernel
theorem dX4_where_58 : decode cX4_where 58 = .ok (.invokevirtual 48, 3) := by decide +kernel
theorem dX4_where_61 : decode cX4_where 61 = .ok (.ireturn, 1) := by decide +kernel
theorem dX4_corn_0 : decode cX4_corn 0 = .ok (.iload_n 1, 1) := by decide +kernel
theorem dX4_corn_1 : decode cX4_corn 1 = .ok (.invokestatic 52, 3) := by decide +kernel
theorem dX4_corn_4 : decode cX4_corn 4 = .ok (.ifCond .eq 15, 3) := by decide +kernel
theorem dX4_corn_7 : decode cX4_corn 7 = .ok (.iload_n 2, 1) := by decide +kernel
theorem dX4_corn_8 : decode cX4_corn 8 = .ok (.i2l, 1) := by decide +kernel
theorem dX4_corn_9 : decode cX4_corn 9 = .ok (.lconst 0, 1) := by decide +kernel
theorem dX4_corn_10 : decode cX4_corn 10 = .ok (.ldc2_w 56, 3) := by decide +kernel
theorem dX4_corn_13 : decode cX4_corn 13 = .ok (.invokestatic 43, 3) := by decide +kernel
theorem dX4_corn_16 : decode cX4_corn 16 = .ok (.ifCond .ne 10, 3) := by decide +kernel
theorem dX4_corn_19 : decode cX4_corn 19 = .ok (.aload_n 0, 1) := by decide +kernel
theorem dX4_corn_20 : decode cX4_corn 20 = .ok (.ldc 40, 2) := by decide +kernel
theorem dX4_corn_22 : decode cX4_corn 22 = .ok (.invokevirtual 48, 3) := by decide +kernel
theorem dX4_corn_25 : decode cX4_corn 25 = .ok (.ireturn, 1) := by decide +kernel
theorem dX4_corn_26 : decode cX4_corn 26 = .ok (.aload_n 0, 1) := by decide +kernel
theorem dX4_corn_27 : decode cX4_corn 27 = .ok (.getfield 7, 3) := by decide +kernel
theorem dX4_corn_30 : decode cX4_corn 30 = .ok (.aload_n 0, 1) := by decide +kernel
theorem dX4_corn_31 : decode cX4_corn 31 = .ok (.getfield 19, 3) := by decide +kernel
theorem dX4_corn_34 : decode cX4_corn 34 = .ok (.invokestatic 141, 3) := by decide +kernel
theorem dX4_corn_37 : decode cX4_corn 37 = .ok (.iconst 0, 1) := by decide +kernel
theorem dX4_corn_38 : decode cX4_corn 38 = .ok (.istore_n 3, 1) := by decide +kernel
theorem dX4_corn_39 : decode cX4_corn 39 = .ok (.iload_n 3, 1) := by decide +kernel
theorem dX4_corn_40 : decode cX4_corn 40 = .ok (.bipush 100, 2) := by decide +kernel
theorem dX4_corn_42 : decode cX4_corn 42 = .ok (.if_icmp .gt 26, 3) := by decide +kernel
theorem dX4_corn_45 : decode cX4_corn 45 = .ok (.aload_n 0, 1) := by decide +kernel
theorem dX4_corn_46 : decode cX4_corn 46 = .ok (.getfield 7, 3) := by decide +kernel
theorem dX4_corn_49 : decode cX4_corn 49 = .ok (.iconst 4, 1) := by decide +kernel
theorem dX4_corn_50 : decode cX4_corn 50 = .ok (.iload_n 1, 1) := by decide +kernel
theorem dX4_corn_51 : decode cX4_corn 51 = .ok (.iadd, 1) := by decide +kernel
theorem dX4_corn_52 : decode cX4_corn 52 = .ok (.iaload, 1) := by decide +kernel
theorem dX4_corn_53 : decode cX4_corn 53 = .ok (.iload_n 2, 1) := by decide +kernel
theorem dX4_corn_54 : decode cX4_corn 54 = .ok (.if_icmp .ge 14, 3) := by decide +kernel
theorem dX4_corn_57 : decode cX4_corn 57 = .ok (.aload_n 0, 1) := by decide +kernel
theorem dX4_corn_58 : decode cX4_corn 58 = .ok (.iconst 0, 1) := by decide +kernel
theorem dX4_corn_59 : decode cX4_corn 59 = .ok (.invokevirtual 115, 3) := by decide +kernel
theorem dX4_corn_62 : decode cX4_corn 62 = .ok (.iinc 3 1, 3) := by decide +kernel
theorem dX4_corn_65 : decode cX4_corn 65 = .ok (.goto (-26), 3) := by decide +kernel
theorem dX4_corn_68 : decode cX4_corn 68 = .ok (.aload_n 0, 1) := by decide +kernel
theorem dX4_corn_69 : decode cX4_corn 69 = .ok (.getfield 19, 3) := by decide +kernel
theorem dX4_corn_72 : decode cX4_corn 72 = .ok (.aload_n 0, 1) := by decide +kernel
theorem dX4_corn_73 : decode cX4_corn 73 = .ok (.getfield 7, 3) := by decide +kernel
theorem dX4_corn_76 : decode cX4_corn 76 = .ok (.invokestatic 141, 3) := by decide +kernel
theorem dX4_corn_79 : decode cX4_corn 79 = .ok (.iload_n 3, 1) := by decide +kernel
theorem dX4_corn_80 : decode cX4_corn 80 = .ok (.bipush 100, 2) := by decide +kernel
theorem dX4_corn_82 : decode cX4_corn 82 = .ok (.if_icmp .gt 7, 3) := by decide +kernel
theorem dX4_corn_85 : decode cX4_corn 85 = .ok (.iload_n 3, 1) := by decide +kernel
theorem dX4_corn_86 : decode cX4_corn 86 = .ok (.goto 9, 3) := by decide +kernel
theorem dX4_corn_89 : decode cX4_corn 89 = .ok (.aload_n 0, 1) := by decide +kernel
theorem dX4_corn_90 : decode cX4_corn 90 = .ok (.ldc 47, 2) := by decide +kernel
theorem dX4_corn_92 : decode cX4_corn 92 = .ok (.invokevirtual 48, 3) := by decide +kernel
theorem dX4_corn_95 : decode cX4_corn 95 = .ok (.ireturn, 1) := by decide +kernel
theorem dX4_when_0 : decode cX4_when 0 = .ok (.iload_n 1, 1) := by decide +kernel
theorem dX4_when_1 : decode cX4_when 1 = .ok (.invokestatic 68, 3) := by decide +kernel
theorem dX4_when_4 : decode cX4_when 4 = .ok (.ifCond .eq 10, 3) := by decide +kernel
theorem dX4_when_7 : decode cX4_when 7 = .ok (.iload_n 2, 1) := by decide +kernel
theorem dX4_when_8 : decode cX4_when 8 = .ok (.invokestatic 71, 3) := by decide +kernel
theorem dX4_when_11 : decode cX4_when 11 = .ok (.ifCond .ne 10, 3) := by decide +kernel
theorem dX4_when_14 : decode cX4_when 14 = .ok (.aload_n 0, 1) := by decide +kernel
theorem dX4_when_15 : decode cX4_when 15 = .ok (.ldc 40, 2) := by decide +kernel
theorem dX4_when_17 : decode cX4_when 17 = .ok (.invokevirtual 48, 3) := by decide +kernel
theorem dX4_when_20 : decode cX4_when 20 = .ok (.ireturn, 1) := by decide +kernel
theorem dX4_when_21 : decode cX4_when 21 = .ok (.aload_n 0, 1) := by decide +kernel
theorem dX4_when_22 : decode cX4_when 22 = .ok (.getfield 7, 3) := by decide +kernel
theorem dX4_when_25 : decode cX4_when 25 = .ok (.aload_n 0, 1) := by decide +kernel
theorem dX4_when_26 : decode cX4_when 26 = .ok (.getfield 19, 3) := by decide +kernel
theorem dX4_when_29 : decode cX4_when 29 = .ok (.invokestatic 141, 3) := by decide +kernel
theorem dX4_when_32 : decode cX4_when 32 = .ok (.iconst 0, 1) := by decide +kernel
theorem dX4_when_33 : decode cX4_when 33 = .ok (.istore_n 3, 1) := by decide +kernel
theorem dX4_when_34 : decode cX4_when 34 = .ok (.iload_n 3, 1) := by decide +kernel
theorem dX4_when_35 : decode cX4_when 35 = .ok (.bipush 100, 2) := by decide +kernel
theorem dX4_when_37 : decode cX4_when 37 = .ok (.if_icmp .gt 27, 3) := by decide +kernel
theorem dX4_when_40 : decode cX4_when 40 = .ok (.aload_n 0, 1) := by decide +kernel
theorem dX4_when_41 : decode cX4_when 41 = .ok (.getfield 7, 3) := by decide +kernel
theorem dX4_when_44 : decode cX4_when 44 = .ok (.bipush 13, 2) := by decide +kernel
theorem dX4_when_46 : decode cX4_when 46 = .ok (.iload_n 1, 1) := by decide +kernel
theorem dX4_when_47 : decode cX4_when 47 = .ok (.iadd, 1) := by decide +kernel
theorem dX4_when_48 : decode cX4_when 48 = .ok (.iaload, 1) := by decide +kernel
theorem dX4_when_49 : decode cX4_when 49 = .ok (.iload_n 2, 1) := by decide +kernel
theorem dX4_when_50 : decode cX4_when 50 = .ok (.if_icmp .eq 14, 3) := by decide +kernel
theorem dX4_when_53 : decode cX4_when 53 = .ok (.aload_n 0, 1) := by decide +kernel
theorem dX4_when_54 : decode cX4_when 54 = .ok (.iconst 0, 1) := by decide +kernel
theorem dX4_when_55 : decode cX4_when 55 = .ok (.invokevirtual 115, 3) := by decide +kernel
theorem dX4_when_58 : decode cX4_when 58 = .ok (.iinc 3 1, 3) := by decide +kernel
theorem dX4_when_61 : decode cX4_when 61 = .ok (.goto (-27), 3) := by decide +kernel
theorem dX4_when_64 : decode cX4_when 64 = .ok (.aload_n 0, 1) := by decide +kernel
theorem dX4_when_65 : decode cX4_when 65 = .ok (.getfield 19, 3) := by decide +kernel
theorem dX4_when_68 : decode cX4_when 68 = .ok (.aload_n 0, 1) := by decide +kernel
theorem dX4_when_69 : decode cX4_when 69 = .ok (.getfield 7, 3) := by decide +kernel
theorem dX4_when_72 : decode cX4_when 72 = .ok (.invokestatic 141, 3) := by decide +kernel
theorem dX4_when_75 : decode cX4_when 75 = .ok (.iload_n 3, 1) := by decide +kernel
theorem dX4_when_76 : decode cX4_when 76 = .ok (.bipush 100, 2) := by decide +kernel
theorem dX4_when_78 : decode cX4_when 78 = .ok (.if_icmp .gt 7, 3) := by decide +kernel
theorem dX4_when_81 : decode cX4_when 81 = .ok (.iload_n 3, 1) := by decide +kernel
theorem dX4_when_82 : decode cX4_when 82 = .ok (.goto 9, 3) := by decide +kernel
theorem dX4_when_85 : decode cX4_when 85 = .ok (.aload_n 0, 1) := by decide +kernel
theorem dX4_when_86 : decode cX4_when 86 = .ok (.ldc 47, 2) := by decide +kernel
theorem dX4_when_88 : decode cX4_when 88 = .ok (.invokevirtual 48, 3) := by decide +kernel
theorem dX4_when_91 : decode cX4_when 91 = .ok (.ireturn, 1) := by decide +kernel
theorem dX4_meet_0 : decode cX4_meet 0 = .ok (.aload_n 0, 1) := by decide +kernel
theorem dX4_meet_1 : decode cX4_meet 1 = .ok (.iload_n 1, 1) := by decide +kernel
theorem dX4_meet_2 : decode cX4_meet 2 = .ok (.invokevirtual 89, 3) := by decide +kernel
theorem dX4_meet_5 : decode cX4_meet 5 = .ok (.ifCond .eq 16, 3) := by decide +kernel
theorem dX4_meet_8 : decode cX4_meet 8 = .ok (.aload_n 0, 1) := by decide +kernel
theorem dX4_meet_9 : decode cX4_meet 9 = .ok (.iload_n 2, 1) := by decide +kernel
theorem dX4_meet_10 : decode cX4_meet 10 = .ok (.invokevirtual 89, 3) := by decide +kernel
theorem dX4_meet_13 : decode cX4_meet 13 = .ok (.ifCond .eq 8, 3) := by decide +kernel
theorem dX4_meet_16 : decode cX4_meet 16 = .ok (.iload_n 1, 1) := by decide +kernel
theorem dX4_meet_17 : decode cX4_meet 17 = .ok (.iload_n 2, 1) := by decide +kernel
theorem dX4_meet_18 : decode cX4_meet 18 = .ok (.if_icmp .ne 10, 3) := by decide +kernel
theorem dX4_meet_21 : decode cX4_meet 21 = .ok (.aload_n 0, 1) := by decide +kernel
theorem dX4_meet_22 : decode cX4_meet 22 = .ok (.ldc 40, 2) := by decide +kernel
theorem dX4_meet_24 : decode cX4_meet 24 = .ok (.invokevirtual 48, 3) := by decide +kernel
theorem dX4_meet_27 : decode cX4_meet 27 = .ok (.ireturn, 1) := by decide +kernel
theorem dX4_meet_28 : decode cX4_meet 28 = .ok (.aload_n 0, 1) := by decide +kernel
theorem dX4_meet_29 : decode cX4_meet 29 = .ok (.getfield 7, 3) := by decide +kernel
theorem dX4_meet_32 : decode cX4_meet 32 = .ok (.aload_n 0, 1) := by decide +kernel
theorem dX4_meet_33 : decode cX4_meet 33 = .ok (.getfield 19, 3) := by decide +kernel
theorem dX4_meet_36 : decode cX4_meet 36 = .ok (.invokestatic 141, 3) := by decide +kernel
theorem dX4_meet_39 : decode cX4_meet 39 = .ok (.iconst 0, 1) := by decide +kernel
theorem dX4_meet_40 : decode cX4_meet 40 = .ok (.istore_n 3, 1) := by decide +kernel
theorem dX4_meet_41 : decode cX4_meet 41 = .ok (.iload_n 3, 1) := by decide +kernel
theorem dX4_meet_42 : decode cX4_meet 42 = .ok (.bipush 100, 2) := by decide +kernel
theorem dX4_meet_44 : decode cX4_meet 44 = .ok (.if_icmp .gt 29, 3) := by decide +kernel
theorem dX4_meet_47 : decode cX4_meet 47 = .ok (.aload_n 0, 1) := by decide +kernel
theorem dX4_meet_48 : decode cX4_meet 48 = .ok (.iload_n 1, 1) := by decide +kernel
theorem dX4_meet_49 : decode cX4_meet 49 = .ok (.iconst 1, 1) := by decide +kernel
theorem dX4_meet_50 : decode cX4_meet 50 = .ok (.invokevirtual 62, 3) := by decide +kernel
theorem dX4_meet_53 : decode cX4_meet 53 = .ok (.aload_n 0, 1) := by decide +kernel
theorem dX4_meet_54 : decode cX4_meet 54 = .ok (.iload_n 2, 1) := by decide +kernel
theorem dX4_meet_55 : decode cX4_meet 55 = .ok (.iconst 1, 1) := by decide +kernel
theorem dX4_meet_56 : decode cX4_meet 56 = .ok (.invokevirtual 62, 3) := by decide +kernel
theorem dX4_meet_59 : decode cX4_meet 59 = .ok (.if_icmp .eq 14, 3) := by decide +kernel
theorem dX4_meet_62 : decode cX4_meet 62 = .ok (.aload_n 0, 1) := by decide +kernel
theorem dX4_meet_63 : decode cX4_meet 63 = .ok (.iconst 0, 1) := by decide +kernel
theorem dX4_meet_64 : decode cX4_meet 64 = .ok (.invokevirtual 115, 3) := by decide +kernel
theorem dX4_meet_67 : decode cX4_meet 67 = .ok (.iinc 3 1, 3) := by decide +kernel
theorem dX4_meet_70 : decode cX4_meet 70 = .ok (.goto (-29), 3) := by decide +kernel
theorem dX4_meet_73 : decode cX4_meet 73 = .ok (.aload_n 0, 1) := by decide +kernel
theorem dX4_meet_74 : decode cX4_meet 74 = .ok (.getfield 19, 3) := by decide +kernel
theorem dX4_meet_77 : decode cX4_meet 77 = .ok (.aload_n 0, 1) := by decide +kernel
theorem dX4_meet_78 : decode cX4_meet 78 = .ok (.getfield 7, 3) := by decide +kernel
theorem dX4_meet_81 : decode cX4_meet 81 = .ok (.invokestatic 141, 3) := by decide +kernel
theorem dX4_meet_84 : decode cX4_meet 84 = .ok (.iload_n 3, 1) := by decide +kernel
theorem dX4_meet_85 : decode cX4_meet 85 = .ok (.bipush 100, 2) := by decide +kernel
theorem dX4_meet_87 : decode cX4_meet 87 = .ok (.if_icmp .gt 7, 3) := by decide +kernel
theorem dX4_meet_90 : decode cX4_meet 90 = .ok (.iload_n 3, 1) := by decide +kernel
theorem dX4_meet_91 : decode cX4_meet 91 = .ok (.goto 9, 3) := by decide +kernel
theorem dX4_meet_94 : decode cX4_meet 94 = .ok (.aload_n 0, 1) := by decide +kernel
theorem dX4_meet_95 : decode cX4_meet 95 = .ok (.ldc 47, 2) := by decide +kernel
theorem dX4_meet_97 : decode cX4_meet 97 = .ok (.invokevirtual 48, 3) := by decide +kernel
theorem dX4_meet_100 : decode cX4_meet 100 = .ok (.ireturn, 1) := by decide +kernel
theorem dX4_isAsked_0 : decode cX4_isAsked 0 = .ok (.aload_n 0, 1) := by decide +kernel
theorem dX4_isAsked_1 : decode cX4_isAsked 1 = .ok (.iload_n 1, 1) := by decide +kernel
theorem dX4_isAsked_2 : decode cX4_isAsked 2 = .ok (.invokevirtual 89, 3) := by decide +kernel
theorem dX4_isAsked_5 : decode cX4_isAsked 5 = .ok (.ifCond .eq 34, 3) := by decide +kernel
theorem dX4_isAsked_8 : decode cX4_isAsked 8 = .ok (.iload_n 2, 1) := by decide +kernel
theorem dX4_isAsked_9 : decode cX4_isAsked 9 = .ok (.invokestatic 68, 3) := by decide +kernel
theorem dX4_isAsked_12 : decode cX4_isAsked 12 = .ok (.ifCond .eq 27, 3) := by decide +kernel
theorem dX4_isAsked_15 : decode cX4_isAsked 15 = .ok (.iload_n 3, 1) := by decide +kernel
theorem dX4_isAsked_16 : decode cX4_isAsked 16 = .ok (.invokestatic 71, 3) := by decide +kernel
theorem dX4_isAsked_19 : decode cX4_isAsked 19 = .ok (.ifCond .eq 20, 3) := by decide +kernel
theorem dX4_isAsked_22 : decode cX4_isAsked 22 = .ok (.iload 4, 2) := by decide +kernel
theorem dX4_isAsked_24 : decode cX4_isAsked 24 = .ok (.i2l, 1) := by decide +kernel
theorem dX4_isAsked_25 : decode cX4_isAsked 25 = .ok (.lconst 0, 1) := by decide +kernel
theorem dX4_isAsked_26 : decode cX4_isAsked 26 = .ok (.ldc2_w 150, 3) := by decide +kernel
theorem dX4_isAsked_29 : decode cX4_isAsked 29 = .ok (.invokestatic 43, 3) := by decide +kernel
theorem dX4_isAsked_32 : decode cX4_isAsked 32 = .ok (.ifCond .eq 7, 3) := by decide +kernel
theorem dX4_isAsked_35 : decode cX4_isAsked 35 = .ok (.iconst 1, 1) := by decide +kernel
theorem dX4_isAsked_36 : decode cX4_isAsked 36 = .ok (.goto 4, 3) := by decide +kernel
theorem dX4_isAsked_39 : decode cX4_isAsked 39 = .ok (.iconst 0, 1) := by decide +kernel
theorem dX4_isAsked_40 : decode cX4_isAsked 40 = .ok (.ireturn, 1) := by decide +kernel
theorem dX4_withWhich_0 : decode cX4_withWhich 0 = .ok (.aload_n 0, 1) := by decide +kernel
theorem dX4_withWhich_1 : decode cX4_withWhich 1 = .ok (.iload_n 1, 1) := by decide +kernel
theorem dX4_withWhich_2 : decode cX4_withWhich 2 = .ok (.iload_n 2, 1) := by decide +kernel
theorem dX4_withWhich_3 : decode cX4_withWhich 3 = .ok (.invokevirtual 62, 3) := by decide +kernel
theorem dX4_withWhich_6 : decode cX4_withWhich 6 = .ok (.istore 6, 2) := by decide +kernel
theorem dX4_withWhich_8 : decode cX4_withWhich 8 = .ok (.iconst 0, 1) := by decide +kernel
theorem dX4_withWhich_9 : decode cX4_withWhich 9 = .ok (.istore 7, 2) := by decide +kernel
theorem dX4_withWhich_11 : decode cX4_withWhich 11 = .ok (.iconst 0, 1) := by decide +kernel
theorem dX4_withWhich_12 : decode cX4_withWhich 12 = .ok (.istore 8, 2) := by decide +kernel
theorem dX4_withWhich_14 : decode cX4_withWhich 14 = .ok (.iload 8, 2) := by decide +kernel
theorem dX4_withWhich_16 : decode cX4_withWhich 16 = .ok (.iload_n 2, 1) := by decide +kernel
theorem dX4_withWhich_17 : decode cX4_withWhich 17 = .ok (.invokestatic 99, 3) := by decide +kernel
theorem dX4_withWhich_20 : decode cX4_withWhich 20 = .ok (.if_icmp .gt 49, 3) := by decide +kernel
theorem dX4_withWhich_23 : decode cX4_withWhich 23 = .ok (.aload_n 0, 1) := by decide +kernel
theorem dX4_withWhich_24 : decode cX4_withWhich 24 = .ok (.getfield 7, 3) := by decide +kernel
theorem dX4_withWhich_27 : decode cX4_withWhich 27 = .ok (.iload_n 1, 1) := by decide +kernel
theorem dX4_withWhich_28 : decode cX4_withWhich 28 = .ok (.iload_n 2, 1) := by decide +kernel
theorem dX4_withWhich_29 : decode cX4_withWhich 29 = .ok (.invokestatic 76, 3) := by decide +kernel
theorem dX4_withWhich_32 : decode cX4_withWhich 32 = .ok (.iload 8, 2) := by decide +kernel
theorem dX4_withWhich_34 : decode cX4_withWhich 34 = .ok (.iastore, 1) := by decide +kernel
theorem dX4_withWhich_35 : decode cX4_withWhich 35 = .ok (.iload 7, 2) := by decide +kernel
theorem dX4_withWhich_37 : decode cX4_withWhich 37 = .ok (.aload_n 0, 1) := by decide +kernel
theorem dX4_withWhich_38 : decode cX4_withWhich 38 = .ok (.bipush 13, 2) := by decide +kernel
theorem dX4_withWhich_40 : decode cX4_withWhich 40 = .ok (.iload_n 3, 1) := by decide +kernel
theorem dX4_withWhich_41 : decode cX4_withWhich 41 = .ok (.iadd, 1) := by decide +kernel
theorem dX4_withWhich_42 : decode cX4_withWhich 42 = .ok (.iload 5, 2) := by decide +kernel
theorem dX4_withWhich_44 : decode cX4_withWhich 44 = .ok (.invokevirtual 147, 3) := by decide +kernel
theorem dX4_withWhich_47 : decode cX4_withWhich 47 = .ok (.iload 4, 2) := by decide +kernel
theorem dX4_withWhich_49 : decode cX4_withWhich 49 = .ok (.if_icmp .ne 10, 3) := by decide +kernel
theorem dX4_withWhich_52 : decode cX4_withWhich 52 = .ok (.iconst 1, 1) := by decide +kernel
theorem dX4_withWhich_53 : decode cX4_withWhich 53 = .ok (.iload 8, 2) := by decide +kernel
theorem dX4_withWhich_55 : decode cX4_withWhich 55 = .ok (.ishl, 1) := by decide +kernel
theorem dX4_withWhich_56 : decode cX4_withWhich 56 = .ok (.goto 4, 3) := by decide +kernel
theorem dX4_withWhich_59 : decode cX4_withWhich 59 = .ok (.iconst 0, 1) := by decide +kernel
theorem dX4_withWhich_60 : decode cX4_withWhich 60 = .ok (.ior, 1) := by decide +kernel
theorem dX4_withWhich_61 : decode cX4_withWhich 61 = .ok (.istore 7, 2) := by decide +kernel
theorem dX4_withWhich_63 : decode cX4_withWhich 63 = .ok (.iinc 8 1, 3) := by decide +kernel
theorem dX4_withWhich_66 : decode cX4_withWhich 66 = .ok (.goto (-52), 3) := by decide +kernel
theorem dX4_withWhich_69 : decode cX4_withWhich 69 = .ok (.aload_n 0, 1) := by decide +kernel
theorem dX4_withWhich_70 : decode cX4_withWhich 70 = .ok (.getfield 7, 3) := by decide +kernel
theorem dX4_withWhich_73 : decode cX4_withWhich 73 = .ok (.iload_n 1, 1) := by decide +kernel
theorem dX4_withWhich_74 : decode cX4_withWhich 74 = .ok (.iload_n 2, 1) := by decide +kernel
theorem dX4_withWhich_75 : decode cX4_withWhich 75 = .ok (.invokestatic 76, 3) := by decide +kernel
theorem dX4_withWhich_78 : decode cX4_withWhich 78 = .ok (.iload 6, 2) := by decide +kernel
theorem dX4_withWhich_80 : decode cX4_withWhich 80 = .ok (.iastore, 1) := by decide +kernel
theorem dX4_withWhich_81 : decode cX4_withWhich 81 = .ok (.iload 7, 2) := by decide +kernel
theorem dX4_withWhich_83 : decode cX4_withWhich 83 = .ok (.ireturn, 1) := by decide +kernel
theorem dX4_lowest_0 : decode cX4_lowest 0 = .ok (.iconst 0, 1) := by decide +kernel
theorem dX4_lowest_1 : decode cX4_lowest 1 = .ok (.istore_n 1, 1) := by decide +kernel
theorem dX4_lowest_2 : decode cX4_lowest 2 = .ok (.iload_n 0, 1) := by decide +kernel
theorem dX4_lowest_3 : decode cX4_lowest 3 = .ok (.ifCond .eq 17, 3) := by decide +kernel
theorem dX4_lowest_6 : decode cX4_lowest 6 = .ok (.iload_n 0, 1) := by decide +kernel
theorem dX4_lowest_7 : decode cX4_lowest 7 = .ok (.iload_n 1, 1) := by decide +kernel
theorem dX4_lowest_8 : decode cX4_lowest 8 = .ok (.ishr, 1) := by decide +kernel
theorem dX4_lowest_9 : decode cX4_lowest 9 = .ok (.iconst 1, 1) := by decide +kernel
theorem dX4_lowest_10 : decode cX4_lowest 10 = .ok (.iand, 1) := by decide +kernel
theorem dX4_lowest_11 : decode cX4_lowest 11 = .ok (.ifCond .ne 9, 3) := by decide +kernel
theorem dX4_lowest_14 : decode cX4_lowest 14 = .ok (.iinc 1 1, 3) := by decide +kernel
theorem dX4_lowest_17 : decode cX4_lowest 17 = .ok (.goto (-15), 3) := by decide +kernel
theorem dX4_lowest_20 : decode cX4_lowest 20 = .ok (.iload_n 0, 1) := by decide +kernel
theorem dX4_lowest_21 : decode cX4_lowest 21 = .ok (.ifCond .ne 7, 3) := by decide +kernel
theorem dX4_lowest_24 : decode cX4_lowest 24 = .ok (.iconst (-1), 1) := by decide +kernel
theorem dX4_lowest_25 : decode cX4_lowest 25 = .ok (.goto 4, 3) := by decide +kernel
theorem dX4_lowest_28 : decode cX4_lowest 28 = .ok (.iload_n 1, 1) := by decide +kernel
theorem dX4_lowest_29 : decode cX4_lowest 29 = .ok (.ireturn, 1) := by decide +kernel
theorem dX4_start_0 : decode cX4_start 0 = .ok (.aload_n 0, 1) := by decide +kernel
theorem dX4_start_1 : decode cX4_start 1 = .ok (.iload_n 1, 1) := by decide +kernel
theorem dX4_start_2 : decode cX4_start 2 = .ok (.iload_n 2, 1) := by decide +kernel
theorem dX4_start_3 : decode cX4_start 3 = .ok (.iload_n 3, 1) := by decide +kernel
theorem dX4_start_4 : decode cX4_start 4 = .ok (.iload 4, 2) := by decide +kernel
theorem dX4_start_6 : decode cX4_start 6 = .ok (.invokevirtual 152, 3) := by decide +kernel
theorem dX4_start_9 : decode cX4_start 9 = .ok (.ifCond .eq 23, 3) := by decide +kernel
theorem dX4_start_12 : decode cX4_start 12 = .ok (.aload_n 0, 1) := by decide +kernel
theorem dX4_start_13 : decode cX4_start 13 = .ok (.aload_n 0, 1) := by decide +kernel
theorem dX4_start_14 : decode cX4_start 14 = .ok (.iload_n 1, 1) := by decide +kernel
theorem dX4_start_15 : decode cX4_start 15 = .ok (.iconst 1, 1) := by decide +kernel
theorem dX4_start_16 : decode cX4_start 16 = .ok (.iload_n 2, 1) := by decide +kernel
theorem dX4_start_17 : decode cX4_start 17 = .ok (.iload_n 3, 1) := by decide +kernel
theorem dX4_start_18 : decode cX4_start 18 = .ok (.iload 4, 2) := by decide +kernel
theorem dX4_start_20 : decode cX4_start 20 = .ok (.invokevirtual 156, 3) := by decide +kernel
theorem dX4_start_23 : decode cX4_start 23 = .ok (.invokestatic 160, 3) := by decide +kernel
theorem dX4_start_26 : decode cX4_start 26 = .ok (.invokevirtual 163, 3) := by decide +kernel
theorem dX4_start_29 : decode cX4_start 29 = .ok (.goto 9, 3) := by decide +kernel
theorem dX4_start_32 : decode cX4_start 32 = .ok (.aload_n 0, 1) := by decide +kernel
theorem dX4_start_33 : decode cX4_start 33 = .ok (.ldc 40, 2) := by decide +kernel
theorem dX4_start_35 : decode cX4_start 35 = .ok (.invokevirtual 48, 3) := by decide +kernel
theorem dX4_start_38 : decode cX4_start 38 = .ok (.ireturn, 1) := by decide +kernel
theorem dX4_kindsFor_0 : decode cX4_kindsFor 0 = .ok (.aload_n 0, 1) := by decide +kernel
theorem dX4_kindsFor_1 : decode cX4_kindsFor 1 = .ok (.iload_n 1, 1) := by decide +kernel
theorem dX4_kindsFor_2 : decode cX4_kindsFor 2 = .ok (.iload_n 2, 1) := by decide +kernel
theorem dX4_kindsFor_3 : decode cX4_kindsFor 3 = .ok (.iload_n 3, 1) := by decide +kernel
theorem dX4_kindsFor_4 : decode cX4_kindsFor 4 = .ok (.iload 4, 2) := by decide +kernel
theorem dX4_kindsFor_6 : decode cX4_kindsFor 6 = .ok (.invokevirtual 152, 3) := by decide +kernel
theorem dX4_kindsFor_9 : decode cX4_kindsFor 9 = .ok (.ifCond .eq 16, 3) := by decide +kernel
theorem dX4_kindsFor_12 : decode cX4_kindsFor 12 = .ok (.aload_n 0, 1) := by decide +kernel
theorem dX4_kindsFor_13 : decode cX4_kindsFor 13 = .ok (.iload_n 1, 1) := by decide +kernel
theorem dX4_kindsFor_14 : decode cX4_kindsFor 14 = .ok (.iconst 0, 1) := by decide +kernel
theorem dX4_kindsFor_15 : decode cX4_kindsFor 15 = .ok (.iload_n 2, 1) := by decide +kernel
theorem dX4_kindsFor_16 : decode cX4_kindsFor 16 = .ok (.iload_n 3, 1) := by decide +kernel
theorem dX4_kindsFor_17 : decode cX4_kindsFor 17 = .ok (.iload 4, 2) := by decide +kernel
theorem dX4_kindsFor_19 : decode cX4_kindsFor 19 = .ok (.invokevirtual 156, 3) := by decide +kernel
theorem dX4_kindsFor_22 : decode cX4_kindsFor 22 = .ok (.goto 9, 3) := by decide +kernel
theorem dX4_kindsFor_25 : decode cX4_kindsFor 25 = .ok (.aload_n 0, 1) := by decide +kernel
theorem dX4_kindsFor_26 : decode cX4_kindsFor 26 = .ok (.ldc 40, 2) := by decide +kernel
theorem dX4_kindsFor_28 : decode cX4_kindsFor 28 = .ok (.invokevirtual 48, 3) := by decide +kernel
theorem dX4_kindsFor_31 : decode cX4_kindsFor 31 = .ok (.ireturn, 1) := by decide +kernel
theorem dX4_moods_0 : decode cX4_moods 0 = .ok (.aload_n 0, 1) := by decide +kernel
theorem dX4_moods_1 : decode cX4_moods 1 = .ok (.iload_n 1, 1) := by decide +kernel
theorem dX4_moods_2 : decode cX4_moods 2 = .ok (.iload_n 2, 1) := by decide +kernel
theorem dX4_moods_3 : decode cX4_moods 3 = .ok (.iload_n 3, 1) := by decide +kernel
theorem dX4_moods_4 : decode cX4_moods 4 = .ok (.iload 4, 2) := by decide +kernel
theorem dX4_moods_6 : decode cX4_moods 6 = .ok (.invokevirtual 152, 3) := by decide +kernel
theorem dX4_moods_9 : decode cX4_moods 9 = .ok (.ifCond .eq 16, 3) := by decide +kernel
theorem dX4_moods_12 : decode cX4_moods 12 = .ok (.aload_n 0, 1) := by decide +kernel
theorem dX4_moods_13 : decode cX4_moods 13 = .ok (.iload_n 1, 1) := by decide +kernel
theorem dX4_moods_14 : decode cX4_moods 14 = .ok (.iconst 3, 1) := by decide +kernel
theorem dX4_moods_15 : decode cX4_moods 15 = .ok (.iload_n 2, 1) := by decide +kernel
theorem dX4_moods_16 : decode cX4_moods 16 = .ok (.iload_n 3, 1) := by decide +kernel
theorem dX4_moods_17 : decode cX4_moods 17 = .ok (.iload 4, 2) := by decide +kernel
theorem dX4_moods_19 : decode cX4_moods 19 = .ok (.invokevirtual 156, 3) := by decide +kernel
theorem dX4_moods_22 : decode cX4_moods 22 = .ok (.goto 9, 3) := by decide +kernel
theorem dX4_moods_25 : decode cX4_moods 25 = .ok (.aload_n 0, 1) := by decide +kernel
theorem dX4_moods_26 : decode cX4_moods 26 = .ok (.ldc 40, 2) := by decide +kernel
theorem dX4_moods_28 : decode cX4_moods 28 = .ok (.invokevirtual 48, 3) := by decide +kernel
theorem dX4_moods_31 : decode cX4_moods 31 = .ok (.ireturn, 1) := by decide +kernel
theorem dX4_windFor_0 : decode cX4_windFor 0 = .ok (.iload_n 1, 1) := by decide +kernel
theorem dX4_windFor_1 : decode cX4_windFor 1 = .ok (.invokestatic 52, 3) := by decide +kernel
theorem dX4_windFor_4 : decode cX4_windFor 4 = .ok (.ifCond .eq 27, 3) := by decide +kernel
theorem dX4_windFor_7 : decode cX4_windFor 7 = .ok (.iload_n 2, 1) := by decide +kernel
theorem dX4_windFor_8 : decode cX4_windFor 8 = .ok (.i2l, 1) := by decide +kernel
theorem dX4_windFor_9 : decode cX4_windFor 9 = .ok (.lconst 0, 1) := by decide +kernel
theorem dX4_windFor_10 : decode cX4_windFor 10 = .ok (.ldc2_w 56, 3) := by decide +kernel
theorem dX4_windFor_13 : decode cX4_windFor 13 = .ok (.invokestatic 43, 3) := by decide +kernel
theorem dX4_windFor_16 : decode cX4_windFor 16 = .ok (.ifCond .eq 15, 3) := by decide +kernel
theorem dX4_windFor_19 : decode cX4_windFor 19 = .ok (.iload_n 3, 1) := by decide +kernel
theorem dX4_windFor_20 : decode cX4_windFor 20 = .ok (.i2l, 1) := by decide +kernel
theorem dX4_windFor_21 : decode cX4_windFor 21 = .ok (.lconst 0, 1) := by decide +kernel
theorem dX4_windFor_22 : decode cX4_windFor 22 = .ok (.ldc2_w 150, 3) := by decide +kernel
theorem dX4_windFor_25 : decode cX4_windFor 25 = .ok (.invokestatic 43, 3) := by decide +kernel
theorem dX4_windFor_28 : decode cX4_windFor 28 = .ok (.ifCond .ne 10, 3) := by decide +kernel
theorem dX4_windFor_31 : decode cX4_windFor 31 = .ok (.aload_n 0, 1) := by decide +kernel
theorem dX4_windFor_32 : decode cX4_windFor 32 = .ok (.ldc 40, 2) := by decide +kernel
theorem dX4_windFor_34 : decode cX4_windFor 34 = .ok (.invokevirtual 48, 3) := by decide +kernel
theorem dX4_windFor_37 : decode cX4_windFor 37 = .ok (.ireturn, 1) := by decide +kernel
theorem dX4_windFor_38 : decode cX4_windFor 38 = .ok (.aload_n 0, 1) := by decide +kernel
theorem dX4_windFor_39 : decode cX4_windFor 39 = .ok (.getfield 7, 3) := by decide +kernel
theorem dX4_windFor_42 : decode cX4_windFor 42 = .ok (.iconst 3, 1) := by decide +kernel
theorem dX4_windFor_43 : decode cX4_windFor 43 = .ok (.iaload, 1) := by decide +kernel
theorem dX4_windFor_44 : decode cX4_windFor 44 = .ok (.istore 4, 2) := by decide +kernel
theorem dX4_windFor_46 : decode cX4_windFor 46 = .ok (.iconst (-1), 1) := by decide +kernel
theorem dX4_windFor_47 : decode cX4_windFor 47 = .ok (.istore 5, 2) := by decide +kernel
theorem dX4_windFor_49 : decode cX4_windFor 49 = .ok (.iconst 0, 1) := by decide +kernel
theorem dX4_windFor_50 : decode cX4_windFor 50 = .ok (.istore 6, 2) := by decide +kernel
theorem dX4_windFor_52 : decode cX4_windFor 52 = .ok (.iload 6, 2) := by decide +kernel
theorem dX4_windFor_54 : decode cX4_windFor 54 = .ok (.bipush 9, 2) := by decide +kernel
theorem dX4_windFor_56 : decode cX4_windFor 56 = .ok (.if_icmp .gt 42, 3) := by decide +kernel
theorem dX4_windFor_59 : decode cX4_windFor 59 = .ok (.iload 5, 2) := by decide +kernel
theorem dX4_windFor_61 : decode cX4_windFor 61 = .ok (.ifCond .ge 37, 3) := by decide +kernel
theorem dX4_windFor_64 : decode cX4_windFor 64 = .ok (.aload_n 0, 1) := by decide +kernel
theorem dX4_windFor_65 : decode cX4_windFor 65 = .ok (.getfield 7, 3) := by decide +kernel
theorem dX4_windFor_68 : decode cX4_windFor 68 = .ok (.iconst 3, 1) := by decide +kernel
theorem dX4_windFor_69 : decode cX4_windFor 69 = .ok (.iload 6, 2) := by decide +kernel
theorem dX4_windFor_71 : decode cX4_windFor 71 = .ok (.iastore, 1) := by decide +kernel
theorem dX4_windFor_72 : decode cX4_windFor 72 = .ok (.aload_n 0, 1) := by decide +kernel
theorem dX4_windFor_73 : decode cX4_windFor 73 = .ok (.iconst 4, 1) := by decide +kernel
theorem dX4_windFor_74 : decode cX4_windFor 74 = .ok (.iload_n 1, 1) := by decide +kernel
theorem dX4_windFor_75 : decode cX4_windFor 75 = .ok (.iadd, 1) := by decide +kernel
theorem dX4_windFor_76 : decode cX4_windFor 76 = .ok (.iload_n 3, 1) := by decide +kernel
theorem dX4_windFor_77 : decode cX4_windFor 77 = .ok (.invokevirtual 147, 3) := by decide +kernel
theorem dX4_windFor_80 : decode cX4_windFor 80 = .ok (.iload_n 2, 1) := by decide +kernel
theorem dX4_windFor_81 : decode cX4_windFor 81 = .ok (.if_icmp .gt 8, 3) := by decide +kernel
theorem dX4_windFor_84 : decode cX4_windFor 84 = .ok (.iload 6, 2) := by decide +kernel
theorem dX4_windFor_86 : decode cX4_windFor 86 = .ok (.goto 4, 3) := by decide +kernel
theorem dX4_windFor_89 : decode cX4_windFor 89 = .ok (.iconst (-1), 1) := by decide +kernel
theorem dX4_windFor_90 : decode cX4_windFor 90 = .ok (.istore 5, 2) := by decide +kernel
theorem dX4_windFor_92 : decode cX4_windFor 92 = .ok (.iinc 6 1, 3) := by decide +kernel
theorem dX4_windFor_95 : decode cX4_windFor 95 = .ok (.goto (-43), 3) := by decide +kernel
theorem dX4_windFor_98 : decode cX4_windFor 98 = .ok (.aload_n 0, 1) := by decide +kernel
theorem dX4_windFor_99 : decode cX4_windFor 99 = .ok (.getfield 7, 3) := by decide +kernel
theorem dX4_windFor_102 : decode cX4_windFor 102 = .ok (.iconst 3, 1) := by decide +kernel
theorem dX4_windFor_103 : decode cX4_windFor 103 = .ok (.iload 4, 2) := by decide +kernel
theorem dX4_windFor_105 : decode cX4_windFor 105 = .ok (.iastore, 1) := by decide +kernel
theorem dX4_windFor_106 : decode cX4_windFor 106 = .ok (.aload_n 0, 1) := by decide +kernel
theorem dX4_windFor_107 : decode cX4_windFor 107 = .ok (.iload 5, 2) := by decide +kernel
theorem dX4_windFor_109 : decode cX4_windFor 109 = .ok (.invokevirtual 163, 3) := by decide +kernel
theorem dX4_windFor_112 : decode cX4_windFor 112 = .ok (.ireturn, 1) := by decide +kernel
theorem dX4_home_0 : decode cX4_home 0 = .ok (.iload_n 1, 1) := by decide +kernel
theorem dX4_home_1 : decode cX4_home 1 = .ok (.invokestatic 52, 3) := by decide +kernel
theorem dX4_home_4 : decode cX4_home 4 = .ok (.ifCond .eq 27, 3) := by decide +kernel
theorem dX4_home_7 : decode cX4_home 7 = .ok (.iload_n 2, 1) := by decide +kernel
theorem dX4_home_8 : decode cX4_home 8 = .ok (.i2l, 1) := by decide +kernel
theorem dX4_home_9 : decode cX4_home 9 = .ok (.lconst 0, 1) := by decide +kernel
theorem dX4_home_10 : decode cX4_home 10 = .ok (.ldc2_w 56, 3) := by decide +kernel
theorem dX4_home_13 : decode cX4_home 13 = .ok (.invokestatic 43, 3) := by decide +kernel
theorem dX4_home_16 : decode cX4_home 16 = .ok (.ifCond .eq 15, 3) := by decide +kernel
theorem dX4_home_19 : decode cX4_home 19 = .ok (.iload_n 3, 1) := by decide +kernel
theorem dX4_home_20 : decode cX4_home 20 = .ok (.i2l, 1) := by decide +kernel
theorem dX4_home_21 : decode cX4_home 21 = .ok (.lconst 0, 1) := by decide +kernel
theorem dX4_home_22 : decode cX4_home 22 = .ok (.ldc2_w 166, 3) := by decide +kernel
theorem dX4_home_25 : decode cX4_home 25 = .ok (.invokestatic 43, 3) := by decide +kernel
theorem dX4_home_28 : decode cX4_home 28 = .ok (.ifCond .ne 10, 3) := by decide +kernel
theorem dX4_home_31 : decode cX4_home 31 = .ok (.aload_n 0, 1) := by decide +kernel
theorem dX4_home_32 : decode cX4_home 32 = .ok (.ldc 40, 2) := by decide +kernel
theorem dX4_home_34 : decode cX4_home 34 = .ok (.invokevirtual 48, 3) := by decide +kernel
theorem dX4_home_37 : decode cX4_home 37 = .ok (.ireturn, 1) := by decide +kernel
theorem dX4_home_38 : decode cX4_home 38 = .ok (.iconst (-1), 1) := by decide +kernel
theorem dX4_home_39 : decode cX4_home 39 = .ok (.istore 4, 2) := by decide +kernel
theorem dX4_home_41 : decode cX4_home 41 = .ok (.aload_n 0, 1) := by decide +kernel
theorem dX4_home_42 : decode cX4_home 42 = .ok (.getfield 7, 3) := by decide +kernel
theorem dX4_home_45 : decode cX4_home 45 = .ok (.aload_n 0, 1) := by decide +kernel
theorem dX4_home_46 : decode cX4_home 46 = .ok (.getfield 19, 3) := by decide +kernel
theorem dX4_home_49 : decode cX4_home 49 = .ok (.invokestatic 141, 3) := by decide +kernel
theorem dX4_home_52 : decode cX4_home 52 = .ok (.iconst 0, 1) := by decide +kernel
theorem dX4_home_53 : decode cX4_home 53 = .ok (.istore 5, 2) := by decide +kernel
theorem dX4_home_55 : decode cX4_home 55 = .ok (.iload 5, 2) := by decide +kernel
theorem dX4_home_57 : decode cX4_home 57 = .ok (.iconst 1, 1) := by decide +kernel
theorem dX4_home_58 : decode cX4_home 58 = .ok (.aload_n 0, 1) := by decide +kernel
theorem dX4_home_59 : decode cX4_home 59 = .ok (.getfield 7, 3) := by decide +kernel
theorem dX4_home_62 : decode cX4_home 62 = .ok (.iconst 0, 1) := by decide +kernel
theorem dX4_home_63 : decode cX4_home 63 = .ok (.iaload, 1) := by decide +kernel
theorem dX4_home_64 : decode cX4_home 64 = .ok (.ishl, 1) := by decide +kernel
theorem dX4_home_65 : decode cX4_home 65 = .ok (.if_icmp .ge 80, 3) := by decide +kernel
theorem dX4_home_68 : decode cX4_home 68 = .ok (.iload 4, 2) := by decide +kernel
theorem dX4_home_70 : decode cX4_home 70 = .ok (.ifCond .lt 16, 3) := by decide +kernel
theorem dX4_home_73 : decode cX4_home 73 = .ok (.iload 5, 2) := by decide +kernel
theorem dX4_home_75 : decode cX4_home 75 = .ok (.invokestatic 168, 3) := by decide +kernel
theorem dX4_home_78 : decode cX4_home 78 = .ok (.iload 4, 2) := by decide +kernel
theorem dX4_home_80 : decode cX4_home 80 = .ok (.invokestatic 168, 3) := by decide +kernel
theorem dX4_home_83 : decode cX4_home 83 = .ok (.if_icmp .ge 56, 3) := by decide +kernel
theorem dX4_home_86 : decode cX4_home 86 = .ok (.iconst 0, 1) := by decide +kernel
theorem dX4_home_87 : decode cX4_home 87 = .ok (.istore 6, 2) := by decide +kernel
theorem dX4_home_89 : decode cX4_home 89 = .ok (.iload 6, 2) := by decide +kernel
theorem dX4_home_91 : decode cX4_home 91 = .ok (.iload_n 3, 1) := by decide +kernel
theorem dX4_home_92 : decode cX4_home 92 = .ok (.if_icmp .ge 15, 3) := by decide +kernel
theorem dX4_home_95 : decode cX4_home 95 = .ok (.aload_n 0, 1) := by decide +kernel
theorem dX4_home_96 : decode cX4_home 96 = .ok (.iload 5, 2) := by decide +kernel
theorem dX4_home_98 : decode cX4_home 98 = .ok (.invokevirtual 115, 3) := by decide +kernel
theorem dX4_home_101 : decode cX4_home 101 = .ok (.iinc 6 1, 3) := by decide +kernel
theorem dX4_home_104 : decode cX4_home 104 = .ok (.goto (-15), 3) := by decide +kernel
theorem dX4_home_107 : decode cX4_home 107 = .ok (.aload_n 0, 1) := by decide +kernel
theorem dX4_home_108 : decode cX4_home 108 = .ok (.getfield 7, 3) := by decide +kernel
theorem dX4_home_111 : decode cX4_home 111 = .ok (.iconst 4, 1) := by decide +kernel
theorem dX4_home_112 : decode cX4_home 112 = .ok (.iload_n 1, 1) := by decide +kernel
theorem dX4_home_113 : decode cX4_home 113 = .ok (.iadd, 1) := by decide +kernel
theorem dX4_home_114 : decode cX4_home 114 = .ok (.iaload, 1) := by decide +kernel
theorem dX4_home_115 : decode cX4_home 115 = .ok (.iload_n 2, 1) := by decide +kernel
theorem dX4_home_116 : decode cX4_home 116 = .ok (.if_icmp .gt 8, 3) := by decide +kernel
theorem dX4_home_119 : decode cX4_home 119 = .ok (.iload 5, 2) := by decide +kernel
theorem dX4_home_121 : decode cX4_home 121 = .ok (.goto 5, 3) := by decide +kernel
theorem dX4_home_124 : decode cX4_home 124 = .ok (.iload 4, 2) := by decide +kernel
theorem dX4_home_126 : decode cX4_home 126 = .ok (.istore 4, 2) := by decide +kernel
theorem dX4_home_128 : decode cX4_home 128 = .ok (.aload_n 0, 1) := by decide +kernel
theorem dX4_home_129 : decode cX4_home 129 = .ok (.getfield 19, 3) := by decide +kernel
theorem dX4_home_132 : decode cX4_home 132 = .ok (.aload_n 0, 1) := by decide +kernel
theorem dX4_home_133 : decode cX4_home 133 = .ok (.getfield 7, 3) := by decide +kernel
theorem dX4_home_136 : decode cX4_home 136 = .ok (.invokestatic 141, 3) := by decide +kernel
theorem dX4_home_139 : decode cX4_home 139 = .ok (.iinc 5 1, 3) := by decide +kernel
theorem dX4_home_142 : decode cX4_home 142 = .ok (.goto (-87), 3) := by decide +kernel
theorem dX4_home_145 : decode cX4_home 145 = .ok (.aload_n 0, 1) := by decide +kernel
theorem dX4_home_146 : decode cX4_home 146 = .ok (.iload 4, 2) := by decide +kernel
theorem dX4_home_148 : decode cX4_home 148 = .ok (.invokevirtual 163, 3) := by decide +kernel
theorem dX4_home_151 : decode cX4_home 151 = .ok (.ireturn, 1) := by decide +kernel
theorem dX4_shut_0 : decode cX4_shut 0 = .ok (.iload_n 1, 1) := by decide +kernel
theorem dX4_shut_1 : decode cX4_shut 1 = .ok (.invokestatic 52, 3) := by decide +kernel
theorem dX4_shut_4 : decode cX4_shut 4 = .ok (.ifCond .eq 15, 3) := by decide +kernel
theorem dX4_shut_7 : decode cX4_shut 7 = .ok (.iload_n 2, 1) := by decide +kernel
theorem dX4_shut_8 : decode cX4_shut 8 = .ok (.i2l, 1) := by decide +kernel
theorem dX4_shut_9 : decode cX4_shut 9 = .ok (.lconst 0, 1) := by decide +kernel
theorem dX4_shut_10 : decode cX4_shut 10 = .ok (.ldc2_w 150, 3) := by decide +kernel
theorem dX4_shut_13 : decode cX4_shut 13 = .ok (.invokestatic 43, 3) := by decide +kernel
theorem dX4_shut_16 : decode cX4_shut 16 = .ok (.ifCond .ne 10, 3) := by decide +kernel
theorem dX4_shut_19 : decode cX4_shut 19 = .ok (.aload_n 0, 1) := by decide +kernel
theorem dX4_shut_20 : decode cX4_shut 20 = .ok (.ldc 40, 2) := by decide +kernel
theorem dX4_shut_22 : decode cX4_shut 22 = .ok (.invokevirtual 48, 3) := by decide +kernel
theorem dX4_shut_25 : decode cX4_shut 25 = .ok (.ireturn, 1) := by decide +kernel
theorem dX4_shut_26 : decode cX4_shut 26 = .ok (.iconst 0, 1) := by decide +kernel
theorem dX4_shut_27 : decode cX4_shut 27 = .ok (.istore_n 3, 1) := by decide +kernel
theorem dX4_shut_28 : decode cX4_shut 28 = .ok (.sipush 10000, 3) := by decide +kernel
theorem dX4_shut_31 : decode cX4_shut 31 = .ok (.istore 4, 2) := by decide +kernel
theorem dX4_shut_33 : decode cX4_shut 33 = .ok (.iconst 0, 1) := by decide +kernel
theorem dX4_shut_34 : decode cX4_shut 34 = .ok (.istore 5, 2) := by decide +kernel
theorem dX4_shut_36 : decode cX4_shut 36 = .ok (.iload 5, 2) := by decide +kernel
theorem dX4_shut_38 : decode cX4_shut 38 = .ok (.bipush 8, 2) := by decide +kernel
theorem dX4_shut_40 : decode cX4_shut 40 = .ok (.if_icmp .ge 66, 3) := by decide +kernel
theorem dX4_shut_43 : decode cX4_shut 43 = .ok (.aload_n 0, 1) := by decide +kernel
theorem dX4_shut_44 : decode cX4_shut 44 = .ok (.bipush 13, 2) := by decide +kernel
theorem dX4_shut_46 : decode cX4_shut 46 = .ok (.iload 5, 2) := by decide +kernel
theorem dX4_shut_48 : decode cX4_shut 48 = .ok (.iadd, 1) := by decide +kernel
theorem dX4_shut_49 : decode cX4_shut 49 = .ok (.iconst 0, 1) := by decide +kernel
theorem dX4_shut_50 : decode cX4_shut 50 = .ok (.invokevirtual 58, 3) := by decide +kernel
theorem dX4_shut_53 : decode cX4_shut 53 = .ok (.istore 6, 2) := by decide +kernel
theorem dX4_shut_55 : decode cX4_shut 55 = .ok (.aload_n 0, 1) := by decide +kernel
theorem dX4_shut_56 : decode cX4_shut 56 = .ok (.iconst 4, 1) := by decide +kernel
theorem dX4_shut_57 : decode cX4_shut 57 = .ok (.iload_n 1, 1) := by decide +kernel
theorem dX4_shut_58 : decode cX4_shut 58 = .ok (.iadd, 1) := by decide +kernel
theorem dX4_shut_59 : decode cX4_shut 59 = .ok (.iload_n 2, 1) := by decide +kernel
theorem dX4_shut_60 : decode cX4_shut 60 = .ok (.invokevirtual 147, 3) := by decide +kernel
theorem dX4_shut_63 : decode cX4_shut 63 = .ok (.istore 7, 2) := by decide +kernel
theorem dX4_shut_65 : decode cX4_shut 65 = .ok (.aload_n 0, 1) := by decide +kernel
theorem dX4_shut_66 : decode cX4_shut 66 = .ok (.getfield 7, 3) := by decide +kernel
theorem dX4_shut_69 : decode cX4_shut 69 = .ok (.bipush 13, 2) := by decide +kernel
theorem dX4_shut_71 : decode cX4_shut 71 = .ok (.iload 5, 2) := by decide +kernel
theorem dX4_shut_73 : decode cX4_shut 73 = .ok (.iadd, 1) := by decide +kernel
theorem dX4_shut_74 : decode cX4_shut 74 = .ok (.iload 6, 2) := by decide +kernel
theorem dX4_shut_76 : decode cX4_shut 76 = .ok (.iastore, 1) := by decide +kernel
theorem dX4_shut_77 : decode cX4_shut 77 = .ok (.iload 7, 2) := by decide +kernel
theorem dX4_shut_79 : decode cX4_shut 79 = .ok (.iload 4, 2) := by decide +kernel
theorem dX4_shut_81 : decode cX4_shut 81 = .ok (.if_icmp .ge 8, 3) := by decide +kernel
theorem dX4_shut_84 : decode cX4_shut 84 = .ok (.iload 5, 2) := by decide +kernel
theorem dX4_shut_86 : decode cX4_shut 86 = .ok (.goto 4, 3) := by decide +kernel
theorem dX4_shut_89 : decode cX4_shut 89 = .ok (.iload_n 3, 1) := by decide +kernel
theorem dX4_shut_90 : decode cX4_shut 90 = .ok (.istore_n 3, 1) := by decide +kernel
theorem dX4_shut_91 : decode cX4_shut 91 = .ok (.iload 4, 2) := by decide +kernel
theorem dX4_shut_93 : decode cX4_shut 93 = .ok (.iload 7, 2) := by decide +kernel
theorem dX4_shut_95 : decode cX4_shut 95 = .ok (.invokestatic 86, 3) := by decide +kernel
theorem dX4_shut_98 : decode cX4_shut 98 = .ok (.istore 4, 2) := by decide +kernel
theorem dX4_shut_100 : decode cX4_shut 100 = .ok (.iinc 5 1, 3) := by decide +kernel
theorem dX4_shut_103 : decode cX4_shut 103 = .ok (.goto (-67), 3) := by decide +kernel
theorem dX4_shut_106 : decode cX4_shut 106 = .ok (.iload_n 3, 1) := by decide +kernel
theorem dX4_shut_107 : decode cX4_shut 107 = .ok (.ireturn, 1) := by decide +kernel
theorem dX4_isTold_0 : decode cX4_isTold 0 = .ok (.aload_n 0, 1) := by decide +kernel
theorem dX4_isTold_1 : decode cX4_isTold 1 = .ok (.getfield 7, 3) := by decide +kernel
theorem dX4_isTold_4 : decode cX4_isTold 4 = .ok (.aload_n 0, 1) := by decide +kernel
theorem dX4_isTold_5 : decode cX4_isTold 5 = .ok (.getfield 19, 3) := by decide +kernel
theorem dX4_isTold_8 : decode cX4_isTold 8 = .ok (.invokestatic 141, 3) := by decide +kernel
theorem dX4_isTold_11 : decode cX4_isTold 11 = .ok (.iconst 0, 1) := by decide +kernel
theorem dX4_isTold_12 : decode cX4_isTold 12 = .ok (.istore 4, 2) := by decide +kernel
theorem dX4_isTold_14 : decode cX4_isTold 14 = .ok (.iload 4, 2) := by decide +kernel
theorem dX4_isTold_16 : decode cX4_isTold 16 = .ok (.iload_n 3, 1) := by decide +kernel
theorem dX4_isTold_17 : decode cX4_isTold 17 = .ok (.if_icmp .ge 14, 3) := by decide +kernel
theorem dX4_isTold_20 : decode cX4_isTold 20 = .ok (.aload_n 0, 1) := by decide +kernel
theorem dX4_isTold_21 : decode cX4_isTold 21 = .ok (.iload_n 2, 1) := by decide +kernel
theorem dX4_isTold_22 : decode cX4_isTold 22 = .ok (.invokevirtual 115, 3) := by decide +kernel
theorem dX4_isTold_25 : decode cX4_isTold 25 = .ok (.iinc 4 1, 3) := by decide +kernel
theorem dX4_isTold_28 : decode cX4_isTold 28 = .ok (.goto (-14), 3) := by decide +kernel
theorem dX4_isTold_31 : decode cX4_isTold 31 = .ok (.iconst 1, 1) := by decide +kernel
theorem dX4_isTold_32 : decode cX4_isTold 32 = .ok (.istore 4, 2) := by decide +kernel
theorem dX4_isTold_34 : decode cX4_isTold 34 = .ok (.iconst 0, 1) := by decide +kernel
theorem dX4_isTold_35 : decode cX4_isTold 35 = .ok (.istore 5, 2) := by decide +kernel
theorem dX4_isTold_37 : decode cX4_isTold 37 = .ok (.iload 5, 2) := by decide +kernel
theorem dX4_isTold_39 : decode cX4_isTold 39 = .ok (.aload_n 0, 1) := by decide +kernel
theorem dX4_isTold_40 : decode cX4_isTold 40 = .ok (.getfield 31, 3) := by decide +kernel
theorem dX4_isTold_43 : decode cX4_isTold 43 = .ok (.iload_n 1, 1) := by decide +kernel
theorem dX4_isTold_44 : decode cX4_isTold 44 = .ok (.iaload, 1) := by decide +kernel
theorem dX4_isTold_45 : decode cX4_isTold 45 = .ok (.if_icmp .ge 61, 3) := by decide +kernel
theorem dX4_isTold_48 : decode cX4_isTold 48 = .ok (.iload 5, 2) := by decide +kernel
theorem dX4_isTold_50 : decode cX4_isTold 50 = .ok (.bipush 8, 2) := by decide +kernel
theorem dX4_isTold_52 : decode cX4_isTold 52 = .ok (.if_icmp .ge 54, 3) := by decide +kernel
theorem dX4_isTold_55 : decode cX4_isTold 55 = .ok (.aload_n 0, 1) := by decide +kernel
theorem dX4_isTold_56 : decode cX4_isTold 56 = .ok (.getfield 34, 3) := by decide +kernel
theorem dX4_isTold_59 : decode cX4_isTold 59 = .ok (.bipush 40, 2) := by decide +kernel
theorem dX4_isTold_61 : decode cX4_isTold 61 = .ok (.iload_n 1, 1) := by decide +kernel
theorem dX4_isTold_62 : decode cX4_isTold 62 = .ok (.imul, 1) := by decide +kernel
theorem dX4_isTold_63 : decode cX4_isTold 63 = .ok (.iload 5, 2) := by decide +kernel
theorem dX4_isTold_65 : decode cX4_isTold 65 = .ok (.iadd, 1) := by decide +kernel
theorem dX4_isTold_66 : decode cX4_isTold 66 = .ok (.iaload, 1) := by decide +kernel
theorem dX4_isTold_67 : decode cX4_isTold 67 = .ok (.istore 6, 2) := by decide +kernel
theorem dX4_isTold_69 : decode cX4_isTold 69 = .ok (.iload 4, 2) := by decide +kernel
theorem dX4_isTold_71 : decode cX4_isTold 71 = .ok (.iload 6, 2) := by decide +kernel
theorem dX4_isTold_73 : decode cX4_isTold 73 = .ok (.iconst (-1), 1) := by decide +kernel
theorem dX4_isTold_74 : decode cX4_isTold 74 = .ok (.if_icmp .eq 18, 3) := by decide +kernel
theorem dX4_isTold_77 : decode cX4_isTold 77 = .ok (.iload 6, 2) := by decide +kernel
theorem dX4_isTold_79 : decode cX4_isTold 79 = .ok (.aload_n 0, 1) := by decide +kernel
theorem dX4_isTold_80 : decode cX4_isTold 80 = .ok (.getfield 7, 3) := by decide +kernel
theorem dX4_isTold_83 : decode cX4_isTold 83 = .ok (.bipush 13, 2) := by decide +kernel
theorem dX4_isTold_85 : decode cX4_isTold 85 = .ok (.iload 5, 2) := by decide +kernel
theorem dX4_isTold_87 : decode cX4_isTold 87 = .ok (.iadd, 1) := by decide +kernel
theorem dX4_isTold_88 : decode cX4_isTold 88 = .ok (.iaload, 1) := by decide +kernel
theorem dX4_isTold_89 : decode cX4_isTold 89 = .ok (.if_icmp .ne 7, 3) := by decide +kernel
theorem dX4_isTold_92 : decode cX4_isTold 92 = .ok (.iconst 1, 1) := by decide +kernel
theorem dX4_isTold_93 : decode cX4_isTold 93 = .ok (.goto 4, 3) := by decide +kernel
theorem dX4_isTold_96 : decode cX4_isTold 96 = .ok (.iconst 0, 1) := by decide +kernel
theorem dX4_isTold_97 : decode cX4_isTold 97 = .ok (.iand, 1) := by decide +kernel
theorem dX4_isTold_98 : decode cX4_isTold 98 = .ok (.istore 4, 2) := by decide +kernel
theorem dX4_isTold_100 : decode cX4_isTold 100 = .ok (.iinc 5 1, 3) := by decide +kernel
theorem dX4_isTold_103 : decode cX4_isTold 103 = .ok (.goto (-66), 3) := by decide +kernel
theorem dX4_isTold_106 : decode cX4_isTold 106 = .ok (.aload_n 0, 1) := by decide +kernel
theorem dX4_isTold_107 : decode cX4_isTold 107 = .ok (.getfield 19, 3) := by decide +kernel
theorem dX4_isTold_110 : decode cX4_isTold 110 = .ok (.aload_n 0, 1) := by decide +kernel
theorem dX4_isTold_111 : decode cX4_isTold 111 = .ok (.getfield 7, 3) := by decide +kernel
theorem dX4_isTold_114 : decode cX4_isTold 114 = .ok (.invokestatic 141, 3) := by decide +kernel
theorem dX4_isTold_117 : decode cX4_isTold 117 = .ok (.iload 4, 2) := by decide +kernel
theorem dX4_isTold_119 : decode cX4_isTold 119 = .ok (.ireturn, 1) := by decide +kernel
theorem dX4_allBut_0 : decode cX4_allBut 0 = .ok (.iconst 1, 1) := by decide +kernel
theorem dX4_allBut_1 : decode cX4_allBut 1 = .ok (.aload_n 0, 1) := by decide +kernel
theorem dX4_allBut_2 : decode cX4_allBut 2 = .ok (.getfield 7, 3) := by decide +kernel
theorem dX4_allBut_5 : decode cX4_allBut 5 = .ok (.iconst 0, 1) := by decide +kernel
theorem dX4_allBut_6 : decode cX4_allBut 6 = .ok (.iaload, 1) := by decide +kernel
theorem dX4_allBut_7 : decode cX4_allBut 7 = .ok (.ishl, 1) := by decide +kernel
theorem dX4_allBut_8 : decode cX4_allBut 8 = .ok (.iconst 1, 1) := by decide +kernel
theorem dX4_allBut_9 : decode cX4_allBut 9 = .ok (.isub, 1) := by decide +kernel
theorem dX4_allBut_10 : decode cX4_allBut 10 = .ok (.iconst 1, 1) := by decide +kernel
theorem dX4_allBut_11 : decode cX4_allBut 11 = .ok (.iload_n 1, 1) := by decide +kernel
theorem dX4_allBut_12 : decode cX4_allBut 12 = .ok (.ishl, 1) := by decide +kernel
theorem dX4_allBut_13 : decode cX4_allBut 13 = .ok (.iconst (-1), 1) := by decide +kernel
theorem dX4_allBut_14 : decode cX4_allBut 14 = .ok (.ixor, 1) := by decide +kernel
theorem dX4_allBut_15 : decode cX4_allBut 15 = .ok (.iand, 1) := by decide +kernel
theorem dX4_allBut_16 : decode cX4_allBut 16 = .ok (.ireturn, 1) := by decide +kernel
theorem dX4_who_0 : decode cX4_who 0 = .ok (.aload_n 0, 1) := by decide +kernel
theorem dX4_who_1 : decode cX4_who 1 = .ok (.iload_n 1, 1) := by decide +kernel
theorem dX4_who_2 : decode cX4_who 2 = .ok (.invokevirtual 171, 3) := by decide +kernel
theorem dX4_who_5 : decode cX4_who 5 = .ok (.ifCond .eq 13, 3) := by decide +kernel
theorem dX4_who_8 : decode cX4_who 8 = .ok (.aload_n 0, 1) := by decide +kernel
theorem dX4_who_9 : decode cX4_who 9 = .ok (.aload_n 0, 1) := by decide +kernel
theorem dX4_who_10 : decode cX4_who 10 = .ok (.iload_n 1, 1) := by decide +kernel
theorem dX4_who_11 : decode cX4_who 11 = .ok (.invokevirtual 171, 3) := by decide +kernel
theorem dX4_who_14 : decode cX4_who 14 = .ok (.invokevirtual 48, 3) := by decide +kernel
theorem dX4_who_17 : decode cX4_who 17 = .ok (.ireturn, 1) := by decide +kernel
theorem dX4_who_18 : decode cX4_who 18 = .ok (.iconst 0, 1) := by decide +kernel
theorem dX4_who_19 : decode cX4_who 19 = .ok (.istore_n 2, 1) := by decide +kernel
theorem dX4_who_20 : decode cX4_who 20 = .ok (.iconst 0, 1) := by decide +kernel
theorem dX4_who_21 : decode cX4_who 21 = .ok (.istore_n 3, 1) := by decide +kernel
theorem dX4_who_22 : decode cX4_who 22 = .ok (.iload_n 3, 1) := by decide +kernel
theorem dX4_who_23 : decode cX4_who 23 = .ok (.aload_n 0, 1) := by decide +kernel
theorem dX4_who_24 : decode cX4_who 24 = .ok (.getfield 7, 3) := by decide +kernel
theorem dX4_who_27 : decode cX4_who 27 = .ok (.iconst 0, 1) := by decide +kernel
theorem dX4_who_28 : decode cX4_who 28 = .ok (.iaload, 1) := by decide +kernel
theorem dX4_who_29 : decode cX4_who 29 = .ok (.if_icmp .ge 33, 3) := by decide +kernel
theorem dX4_who_32 : decode cX4_who 32 = .ok (.iload_n 2, 1) := by decide +kernel
theorem dX4_who_33 : decode cX4_who 33 = .ok (.aload_n 0, 1) := by decide +kernel
theorem dX4_who_34 : decode cX4_who 34 = .ok (.iload_n 1, 1) := by decide +kernel
theorem dX4_who_35 : decode cX4_who 35 = .ok (.aload_n 0, 1) := by decide +kernel
theorem dX4_who_36 : decode cX4_who 36 = .ok (.iload_n 3, 1) := by decide +kernel
theorem dX4_who_37 : decode cX4_who 37 = .ok (.invokevirtual 174, 3) := by decide +kernel
theorem dX4_who_40 : decode cX4_who 40 = .ok (.iconst 1, 1) := by decide +kernel
theorem dX4_who_41 : decode cX4_who 41 = .ok (.invokevirtual 177, 3) := by decide +kernel
theorem dX4_who_44 : decode cX4_who 44 = .ok (.ifCond .eq 9, 3) := by decide +kernel
theorem dX4_who_47 : decode cX4_who 47 = .ok (.iconst 1, 1) := by decide +kernel
theorem dX4_who_48 : decode cX4_who 48 = .ok (.iload_n 3, 1) := by decide +kernel
theorem dX4_who_49 : decode cX4_who 49 = .ok (.ishl, 1) := by decide +kernel
theorem dX4_who_50 : decode cX4_who 50 = .ok (.goto 4, 3) := by decide +kernel
theorem dX4_who_53 : decode cX4_who 53 = .ok (.iconst 0, 1) := by decide +kernel
theorem dX4_who_54 : decode cX4_who 54 = .ok (.ior, 1) := by decide +kernel
theorem dX4_who_55 : decode cX4_who 55 = .ok (.istore_n 2, 1) := by decide +kernel
theorem dX4_who_56 : decode cX4_who 56 = .ok (.iinc 3 1, 3) := by decide +kernel
theorem dX4_who_59 : decode cX4_who 59 = .ok (.goto (-37), 3) := by decide +kernel
theorem dX4_who_62 : decode cX4_who 62 = .ok (.iload_n 2, 1) := by decide +kernel
theorem dX4_who_63 : decode cX4_who 63 = .ok (.ireturn, 1) := by decide +kernel
theorem dX4_fits_0 : decode cX4_fits 0 = .ok (.aload_n 0, 1) := by decide +kernel
theorem dX4_fits_1 : decode cX4_fits 1 = .ok (.iload_n 1, 1) := by decide +kernel
theorem dX4_fits_2 : decode cX4_fits 2 = .ok (.invokevirtual 171, 3) := by decide +kernel
theorem dX4_fits_5 : decode cX4_fits 5 = .ok (.ifCond .eq 11, 3) := by decide +kernel
theorem dX4_fits_8 : decode cX4_fits 8 = .ok (.aload_n 0, 1) := by decide +kernel
theorem dX4_fits_9 : decode cX4_fits 9 = .ok (.iload_n 1, 1) := by decide +kernel
theorem dX4_fits_10 : decode cX4_fits 10 = .ok (.invokevirtual 171, 3) := by decide +kernel
theorem dX4_fits_13 : decode cX4_fits 13 = .ok (.goto 29, 3) := by decide +kernel
theorem dX4_fits_16 : decode cX4_fits 16 = .ok (.aload_n 0, 1) := by decide +kernel
theorem dX4_fits_17 : decode cX4_fits 17 = .ok (.iload_n 2, 1) := by decide +kernel
theorem dX4_fits_18 : decode cX4_fits 18 = .ok (.invokevirtual 89, 3) := by decide +kernel
theorem dX4_fits_21 : decode cX4_fits 21 = .ok (.ifCond .eq 19, 3) := by decide +kernel
theorem dX4_fits_24 : decode cX4_fits 24 = .ok (.iload_n 3, 1) := by decide +kernel
theorem dX4_fits_25 : decode cX4_fits 25 = .ok (.i2l, 1) := by decide +kernel
theorem dX4_fits_26 : decode cX4_fits 26 = .ok (.lconst 0, 1) := by decide +kernel
theorem dX4_fits_27 : decode cX4_fits 27 = .ok (.ldc2_w 166, 3) := by decide +kernel
theorem dX4_fits_30 : decode cX4_fits 30 = .ok (.invokestatic 43, 3) := by decide +kernel
theorem dX4_fits_33 : decode cX4_fits 33 = .ok (.ifCond .eq 7, 3) := by decide +kernel
theorem dX4_fits_36 : decode cX4_fits 36 = .ok (.iconst 0, 1) := by decide +kernel
theorem dX4_fits_37 : decode cX4_fits 37 = .ok (.goto 5, 3) := by decide +kernel
theorem dX4_fits_40 : decode cX4_fits 40 = .ok (.ldc 40, 2) := by decide +kernel
theorem dX4_fits_42 : decode cX4_fits 42 = .ok (.istore 4, 2) := by decide +kernel
theorem dX4_fits_44 : decode cX4_fits 44 = .ok (.iload 4, 2) := by decide +kernel
theorem dX4_fits_46 : decode cX4_fits 46 = .ok (.ifCond .eq 10, 3) := by decide +kernel
theorem dX4_fits_49 : decode cX4_fits 49 = .ok (.aload_n 0, 1) := by decide +kernel
theorem dX4_fits_50 : decode cX4_fits 50 = .ok (.iload 4, 2) := by decide +kernel
theorem dX4_fits_52 : decode cX4_fits 52 = .ok (.invokevirtual 48, 3) := by decide +kernel
theorem dX4_fits_55 : decode cX4_fits 55 = .ok (.ireturn, 1) := by decide +kernel
theorem dX4_fits_56 : decode cX4_fits 56 = .ok (.aload_n 0, 1) := by decide +kernel
theorem dX4_fits_57 : decode cX4_fits 57 = .ok (.iload_n 2, 1) := by decide +kernel
theorem dX4_fits_58 : decode cX4_fits 58 = .ok (.iconst 1, 1) := by decide +kernel
theorem dX4_fits_59 : decode cX4_fits 59 = .ok (.invokevirtual 62, 3) := by decide +kernel
theorem dX4_fits_62 : decode cX4_fits 62 = .ok (.istore 5, 2) := by decide +kernel
theorem dX4_fits_64 : decode cX4_fits 64 = .ok (.iconst 0, 1) := by decide +kernel
theorem dX4_fits_65 : decode cX4_fits 65 = .ok (.istore 6, 2) := by decide +kernel
theorem dX4_fits_67 : decode cX4_fits 67 = .ok (.iconst 0, 1) := by decide +kernel
theorem dX4_fits_68 : decode cX4_fits 68 = .ok (.istore 7, 2) := by decide +kernel
theorem dX4_fits_70 : decode cX4_fits 70 = .ok (.iload 7, 2) := by decide +kernel
theorem dX4_fits_72 : decode cX4_fits 72 = .ok (.bipush 9, 2) := by decide +kernel
theorem dX4_fits_74 : decode cX4_fits 74 = .ok (.if_icmp .ge 48, 3) := by decide +kernel
theorem dX4_fits_77 : decode cX4_fits 77 = .ok (.aload_n 0, 1) := by decide +kernel
theorem dX4_fits_78 : decode cX4_fits 78 = .ok (.getfield 7, 3) := by decide +kernel
theorem dX4_fits_81 : decode cX4_fits 81 = .ok (.iload_n 2, 1) := by decide +kernel
theorem dX4_fits_82 : decode cX4_fits 82 = .ok (.iconst 1, 1) := by decide +kernel
theorem dX4_fits_83 : decode cX4_fits 83 = .ok (.invokestatic 76, 3) := by decide +kernel
theorem dX4_fits_86 : decode cX4_fits 86 = .ok (.iload 7, 2) := by decide +kernel
theorem dX4_fits_88 : decode cX4_fits 88 = .ok (.iastore, 1) := by decide +kernel
theorem dX4_fits_89 : decode cX4_fits 89 = .ok (.iload 6, 2) := by decide +kernel
theorem dX4_fits_91 : decode cX4_fits 91 = .ok (.aload_n 0, 1) := by decide +kernel
theorem dX4_fits_92 : decode cX4_fits 92 = .ok (.iload_n 1, 1) := by decide +kernel
theorem dX4_fits_93 : decode cX4_fits 93 = .ok (.aload_n 0, 1) := by decide +kernel
theorem dX4_fits_94 : decode cX4_fits 94 = .ok (.iload_n 2, 1) := by decide +kernel
theorem dX4_fits_95 : decode cX4_fits 95 = .ok (.invokevirtual 174, 3) := by decide +kernel
theorem dX4_fits_98 : decode cX4_fits 98 = .ok (.iload_n 3, 1) := by decide +kernel
theorem dX4_fits_99 : decode cX4_fits 99 = .ok (.invokevirtual 177, 3) := by decide +kernel
theorem dX4_fits_102 : decode cX4_fits 102 = .ok (.ifCond .eq 10, 3) := by decide +kernel
theorem dX4_fits_105 : decode cX4_fits 105 = .ok (.iconst 1, 1) := by decide +kernel
theorem dX4_fits_106 : decode cX4_fits 106 = .ok (.iload 7, 2) := by decide +kernel
theorem dX4_fits_108 : decode cX4_fits 108 = .ok (.ishl, 1) := by decide +kernel
theorem dX4_fits_109 : decode cX4_fits 109 = .ok (.goto 4, 3) := by decide +kernel
theorem dX4_fits_112 : decode cX4_fits 112 = .ok (.iconst 0, 1) := by decide +kernel
theorem dX4_fits_113 : decode cX4_fits 113 = .ok (.ior, 1) := by decide +kernel
theorem dX4_fits_114 : decode cX4_fits 114 = .ok (.istore 6, 2) := by decide +kernel
theorem dX4_fits_116 : decode cX4_fits 116 = .ok (.iinc 7 1, 3) := by decide +kernel
theorem dX4_fits_119 : decode cX4_fits 119 = .ok (.goto (-49), 3) := by decide +kernel
theorem dX4_fits_122 : decode cX4_fits 122 = .ok (.aload_n 0, 1) := by decide +kernel
theorem dX4_fits_123 : decode cX4_fits 123 = .ok (.getfield 7, 3) := by decide +kernel
theorem dX4_fits_126 : decode cX4_fits 126 = .ok (.iload_n 2, 1) := by decide +kernel
theorem dX4_fits_127 : decode cX4_fits 127 = .ok (.iconst 1, 1) := by decide +kernel
theorem dX4_fits_128 : decode cX4_fits 128 = .ok (.invokestatic 76, 3) := by decide +kernel
theorem dX4_fits_131 : decode cX4_fits 131 = .ok (.iload 5, 2) := by decide +kernel
theorem dX4_fits_133 : decode cX4_fits 133 = .ok (.iastore, 1) := by decide +kernel
theorem dX4_fits_134 : decode cX4_fits 134 = .ok (.iload 6, 2) := by decide +kernel
theorem dX4_fits_136 : decode cX4_fits 136 = .ok (.ireturn, 1) := by decide +kernel
theorem dX4_isInMood_0 : decode cX4_isInMood 0 = .ok (.aload_n 0, 1) := by decide +kernel
theorem dX4_isInMood_1 : decode cX4_isInMood 1 = .ok (.getfield 7, 3) := by decide +kernel
theorem dX4_isInMood_4 : decode cX4_isInMood 4 = .ok (.aload_n 0, 1) := by decide +kernel
theorem dX4_isInMood_5 : decode cX4_isInMood 5 = .ok (.getfield 19, 3) := by decide +kernel
theorem dX4_isInMood_8 : decode cX4_isInMood 8 = .ok (.invokestatic 141, 3) := by decide +kernel
theorem dX4_isInMood_11 : decode cX4_isInMood 11 = .ok (.iconst 1, 1) := by decide +kernel
theorem dX4_isInMood_12 : decode cX4_isInMood 12 = .ok (.istore_n 3, 1) := by decide +kernel
theorem dX4_isInMood_13 : decode cX4_isInMood 13 = .ok (.iconst 0, 1) := by decide +kernel
theorem dX4_isInMood_14 : decode cX4_isInMood 14 = .ok (.istore 4, 2) := by decide +kernel
theorem dX4_isInMood_16 : decode cX4_isInMood 16 = .ok (.iload 4, 2) := by decide +kernel
theorem dX4_isInMood_18 : decode cX4_isInMood 18 = .ok (.aload_n 0, 1) := by decide +kernel
theorem dX4_isInMood_19 : decode cX4_isInMood 19 = .ok (.getfield 31, 3) := by decide +kernel
theorem dX4_isInMood_22 : decode cX4_isInMood 22 = .ok (.iload_n 1, 1) := by decide +kernel
theorem dX4_isInMood_23 : decode cX4_isInMood 23 = .ok (.iaload, 1) := by decide +kernel
theorem dX4_isInMood_24 : decode cX4_isInMood 24 = .ok (.if_icmp .ge 55, 3) := by decide +kernel
theorem dX4_isInMood_27 : decode cX4_isInMood 27 = .ok (.iload_n 3, 1) := by decide +kernel
theorem dX4_isInMood_28 : decode cX4_isInMood 28 = .ok (.ifCond .eq 51, 3) := by decide +kernel
theorem dX4_isInMood_31 : decode cX4_isInMood 31 = .ok (.aload_n 0, 1) := by decide +kernel
theorem dX4_isInMood_32 : decode cX4_isInMood 32 = .ok (.getfield 34, 3) := by decide +kernel
theorem dX4_isInMood_35 : decode cX4_isInMood 35 = .ok (.bipush 40, 2) := by decide +kernel
theorem dX4_isInMood_37 : decode cX4_isInMood 37 = .ok (.iload_n 1, 1) := by decide +kernel
theorem dX4_isInMood_38 : decode cX4_isInMood 38 = .ok (.imul, 1) := by decide +kernel
theorem dX4_isInMood_39 : decode cX4_isInMood 39 = .ok (.iload 4, 2) := by decide +kernel
theorem dX4_isInMood_41 : decode cX4_isInMood 41 = .ok (.iadd, 1) := by decide +kernel
theorem dX4_isInMood_42 : decode cX4_isInMood 42 = .ok (.iaload, 1) := by decide +kernel
theorem dX4_isInMood_43 : decode cX4_isInMood 43 = .ok (.istore 5, 2) := by decide +kernel
theorem dX4_isInMood_45 : decode cX4_isInMood 45 = .ok (.iload 5, 2) := by decide +kernel
theorem dX4_isInMood_47 : decode cX4_isInMood 47 = .ok (.iconst (-1), 1) := by decide +kernel
theorem dX4_isInMood_48 : decode cX4_isInMood 48 = .ok (.if_icmp .eq 14, 3) := by decide +kernel
theorem dX4_isInMood_51 : decode cX4_isInMood 51 = .ok (.iload 5, 2) := by decide +kernel
theorem dX4_isInMood_53 : decode cX4_isInMood 53 = .ok (.aload_n 0, 1) := by decide +kernel
theorem dX4_isInMood_54 : decode cX4_isInMood 54 = .ok (.iload_n 2, 1) := by decide +kernel
theorem dX4_isInMood_55 : decode cX4_isInMood 55 = .ok (.iconst 3, 1) := by decide +kernel
theorem dX4_isInMood_56 : decode cX4_isInMood 56 = .ok (.invokevirtual 62, 3) := by decide +kernel
theorem dX4_isInMood_59 : decode cX4_isInMood 59 = .ok (.if_icmp .ne 7, 3) := by decide +kernel
theorem dX4_isInMood_62 : decode cX4_isInMood 62 = .ok (.iconst 1, 1) := by decide +kernel
theorem dX4_isInMood_63 : decode cX4_isInMood 63 = .ok (.goto 4, 3) := by decide +kernel
theorem dX4_isInMood_66 : decode cX4_isInMood 66 = .ok (.iconst 0, 1) := by decide +kernel
theorem dX4_isInMood_67 : decode cX4_isInMood 67 = .ok (.istore_n 3, 1) := by decide +kernel
theorem dX4_isInMood_68 : decode cX4_isInMood 68 = .ok (.aload_n 0, 1) := by decide +kernel
theorem dX4_isInMood_69 : decode cX4_isInMood 69 = .ok (.iconst 0, 1) := by decide +kernel
theorem dX4_isInMood_70 : decode cX4_isInMood 70 = .ok (.invokevirtual 115, 3) := by decide +kernel
theorem dX4_isInMood_73 : decode cX4_isInMood 73 = .ok (.iinc 4 1, 3) := by decide +kernel
theorem dX4_isInMood_76 : decode cX4_isInMood 76 = .ok (.goto (-60), 3) := by decide +kernel
theorem dX4_isInMood_79 : decode cX4_isInMood 79 = .ok (.aload_n 0, 1) := by decide +kernel
theorem dX4_isInMood_80 : decode cX4_isInMood 80 = .ok (.getfield 19, 3) := by decide +kernel
theorem dX4_isInMood_83 : decode cX4_isInMood 83 = .ok (.aload_n 0, 1) := by decide +kernel
theorem dX4_isInMood_84 : decode cX4_isInMood 84 = .ok (.getfield 7, 3) := by decide +kernel
theorem dX4_isInMood_87 : decode cX4_isInMood 87 = .ok (.invokestatic 141, 3) := by decide +kernel
theorem dX4_isInMood_90 : decode cX4_isInMood 90 = .ok (.iload_n 3, 1) := by decide +kernel
theorem dX4_isInMood_91 : decode cX4_isInMood 91 = .ok (.ireturn, 1) := by decide +kernel
theorem dX4_kinds_0 : decode cX4_kinds 0 = .ok (.aload_n 0, 1) := by decide +kernel
theorem dX4_kinds_1 : decode cX4_kinds 1 = .ok (.iload_n 1, 1) := by decide +kernel
theorem dX4_kinds_2 : decode cX4_kinds 2 = .ok (.invokevirtual 171, 3) := by decide +kernel
theorem dX4_kinds_5 : decode cX4_kinds 5 = .ok (.ifCond .eq 11, 3) := by decide +kernel
theorem dX4_kinds_8 : decode cX4_kinds 8 = .ok (.aload_n 0, 1) := by decide +kernel
theorem dX4_kinds_9 : decode cX4_kinds 9 = .ok (.iload_n 1, 1) := by decide +kernel
theorem dX4_kinds_10 : decode cX4_kinds 10 = .ok (.invokevirtual 171, 3) := by decide +kernel
theorem dX4_kinds_13 : decode cX4_kinds 13 = .ok (.goto 17, 3) := by decide +kernel
theorem dX4_kinds_16 : decode cX4_kinds 16 = .ok (.aload_n 0, 1) := by decide +kernel
theorem dX4_kinds_17 : decode cX4_kinds 17 = .ok (.iload_n 2, 1) := by decide +kernel
theorem dX4_kinds_18 : decode cX4_kinds 18 = .ok (.invokevirtual 89, 3) := by decide +kernel
theorem dX4_kinds_21 : decode cX4_kinds 21 = .ok (.ifCond .eq 7, 3) := by decide +kernel
theorem dX4_kinds_24 : decode cX4_kinds 24 = .ok (.iconst 0, 1) := by decide +kernel
theorem dX4_kinds_25 : decode cX4_kinds 25 = .ok (.goto 5, 3) := by decide +kernel
theorem dX4_kinds_28 : decode cX4_kinds 28 = .ok (.ldc 40, 2) := by decide +kernel
theorem dX4_kinds_30 : decode cX4_kinds 30 = .ok (.istore_n 3, 1) := by decide +kernel
theorem dX4_kinds_31 : decode cX4_kinds 31 = .ok (.iload_n 3, 1) := by decide +kernel
theorem dX4_kinds_32 : decode cX4_kinds 32 = .ok (.ifCond .eq 9, 3) := by decide +kernel
theorem dX4_kinds_35 : decode cX4_kinds 35 = .ok (.aload_n 0, 1) := by decide +kernel
theorem dX4_kinds_36 : decode cX4_kinds 36 = .ok (.iload_n 3, 1) := by decide +kernel
theorem dX4_kinds_37 : decode cX4_kinds 37 = .ok (.invokevirtual 48, 3) := by decide +kernel
theorem dX4_kinds_40 : decode cX4_kinds 40 = .ok (.ireturn, 1) := by decide +kernel
theorem dX4_kinds_41 : decode cX4_kinds 41 = .ok (.aload_n 0, 1) := by decide +kernel
theorem dX4_kinds_42 : decode cX4_kinds 42 = .ok (.iload_n 2, 1) := by decide +kernel
theorem dX4_kinds_43 : decode cX4_kinds 43 = .ok (.iconst 0, 1) := by decide +kernel
theorem dX4_kinds_44 : decode cX4_kinds 44 = .ok (.invokevirtual 62, 3) := by decide +kernel
theorem dX4_kinds_47 : decode cX4_kinds 47 = .ok (.istore 4, 2) := by decide +kernel
theorem dX4_kinds_49 : decode cX4_kinds 49 = .ok (.iconst 0, 1) := by decide +kernel
theorem dX4_kinds_50 : decode cX4_kinds 50 = .ok (.istore 5, 2) := by decide +kernel
theorem dX4_kinds_52 : decode cX4_kinds 52 = .ok (.iconst 0, 1) := by decide +kernel
theorem dX4_kinds_53 : decode cX4_kinds 53 = .ok (.istore 6, 2) := by decide +kernel
theorem dX4_kinds_55 : decode cX4_kinds 55 = .ok (.iload 6, 2) := by decide +kernel
theorem dX4_kinds_57 : decode cX4_kinds 57 = .ok (.bipush 6, 2) := by decide +kernel
theorem dX4_kinds_59 : decode cX4_kinds 59 = .ok (.if_icmp .gt 43, 3) := by decide +kernel
theorem dX4_kinds_62 : decode cX4_kinds 62 = .ok (.aload_n 0, 1) := by decide +kernel
theorem dX4_kinds_63 : decode cX4_kinds 63 = .ok (.getfield 7, 3) := by decide +kernel
theorem dX4_kinds_66 : decode cX4_kinds 66 = .ok (.iload_n 2, 1) := by decide +kernel
theorem dX4_kinds_67 : decode cX4_kinds 67 = .ok (.iconst 0, 1) := by decide +kernel
theorem dX4_kinds_68 : decode cX4_kinds 68 = .ok (.invokestatic 76, 3) := by decide +kernel
theorem dX4_kinds_71 : decode cX4_kinds 71 = .ok (.iload 6, 2) := by decide +kernel
theorem dX4_kinds_73 : decode cX4_kinds 73 = .ok (.iastore, 1) := by decide +kernel
theorem dX4_kinds_74 : decode cX4_kinds 74 = .ok (.iload 5, 2) := by decide +kernel
theorem dX4_kinds_76 : decode cX4_kinds 76 = .ok (.aload_n 0, 1) := by decide +kernel
theorem dX4_kinds_77 : decode cX4_kinds 77 = .ok (.iload_n 1, 1) := by decide +kernel
theorem dX4_kinds_78 : decode cX4_kinds 78 = .ok (.iload_n 2, 1) := by decide +kernel
theorem dX4_kinds_79 : decode cX4_kinds 79 = .ok (.invokevirtual 181, 3) := by decide +kernel
theorem dX4_kinds_82 : decode cX4_kinds 82 = .ok (.ifCond .eq 10, 3) := by decide +kernel
theorem dX4_kinds_85 : decode cX4_kinds 85 = .ok (.iconst 1, 1) := by decide +kernel
theorem dX4_kinds_86 : decode cX4_kinds 86 = .ok (.iload 6, 2) := by decide +kernel
theorem dX4_kinds_88 : decode cX4_kinds 88 = .ok (.ishl, 1) := by decide +kernel
theorem dX4_kinds_89 : decode cX4_kinds 89 = .ok (.goto 4, 3) := by decide +kernel
theorem dX4_kinds_92 : decode cX4_kinds 92 = .ok (.iconst 0, 1) := by decide +kernel
theorem dX4_kinds_93 : decode cX4_kinds 93 = .ok (.ior, 1) := by decide +kernel
theorem dX4_kinds_94 : decode cX4_kinds 94 = .ok (.istore 5, 2) := by decide +kernel
theorem dX4_kinds_96 : decode cX4_kinds 96 = .ok (.iinc 6 1, 3) := by decide +kernel
theorem dX4_kinds_99 : decode cX4_kinds 99 = .ok (.goto (-44), 3) := by decide +kernel
theorem dX4_kinds_102 : decode cX4_kinds 102 = .ok (.aload_n 0, 1) := by decide +kernel
theorem dX4_kinds_103 : decode cX4_kinds 103 = .ok (.getfield 7, 3) := by decide +kernel
theorem dX4_kinds_106 : decode cX4_kinds 106 = .ok (.iload_n 2, 1) := by decide +kernel
theorem dX4_kinds_107 : decode cX4_kinds 107 = .ok (.iconst 0, 1) := by decide +kernel
theorem dX4_kinds_108 : decode cX4_kinds 108 = .ok (.invokestatic 76, 3) := by decide +kernel
theorem dX4_kinds_111 : decode cX4_kinds 111 = .ok (.iload 4, 2) := by decide +kernel
theorem dX4_kinds_113 : decode cX4_kinds 113 = .ok (.iastore, 1) := by decide +kernel
theorem dX4_kinds_114 : decode cX4_kinds 114 = .ok (.iload 5, 2) := by decide +kernel
theorem dX4_kinds_116 : decode cX4_kinds 116 = .ok (.ireturn, 1) := by decide +kernel
theorem dX4_draw_0 : decode cX4_draw 0 = .ok (.aload_n 0, 1) := by decide +kernel
theorem dX4_draw_1 : decode cX4_draw 1 = .ok (.getfield 7, 3) := by decide +kernel
theorem dX4_draw_4 : decode cX4_draw 4 = .ok (.iconst 2, 1) := by decide +kernel
theorem dX4_draw_5 : decode cX4_draw 5 = .ok (.aload_n 0, 1) := by decide +kernel
theorem dX4_draw_6 : decode cX4_draw 6 = .ok (.getfield 7, 3) := by decide +kernel
theorem dX4_draw_9 : decode cX4_draw 9 = .ok (.iconst 2, 1) := by decide +kernel
theorem dX4_draw_10 : decode cX4_draw 10 = .ok (.iaload, 1) := by decide +kernel
theorem dX4_draw_11 : decode cX4_draw 11 = .ok (.ldc 185, 2) := by decide +kernel
theorem dX4_draw_13 : decode cX4_draw 13 = .ok (.imul, 1) := by decide +kernel
theorem dX4_draw_14 : decode cX4_draw 14 = .ok (.sipush 12345, 3) := by decide +kernel
theorem dX4_draw_17 : decode cX4_draw 17 = .ok (.iadd, 1) := by decide +kernel
theorem dX4_draw_18 : decode cX4_draw 18 = .ok (.iastore, 1) := by decide +kernel
theorem dX4_draw_19 : decode cX4_draw 19 = .ok (.aload_n 0, 1) := by decide +kernel
theorem dX4_draw_20 : decode cX4_draw 20 = .ok (.getfield 7, 3) := by decide +kernel
theorem dX4_draw_23 : decode cX4_draw 23 = .ok (.iconst 2, 1) := by decide +kernel
theorem dX4_draw_24 : decode cX4_draw 24 = .ok (.iaload, 1) := by decide +kernel
theorem dX4_draw_25 : decode cX4_draw 25 = .ok (.bipush 8, 2) := by decide +kernel
theorem dX4_draw_27 : decode cX4_draw 27 = .ok (.iushr, 1) := by decide +kernel
theorem dX4_draw_28 : decode cX4_draw 28 = .ok (.ireturn, 1) := by decide +kernel
theorem dX4_gales_0 : decode cX4_gales 0 = .ok (.iload_n 1, 1) := by decide +kernel
theorem dX4_gales_1 : decode cX4_gales 1 = .ok (.i2l, 1) := by decide +kernel
theorem dX4_gales_2 : decode cX4_gales 2 = .ok (.lconst 1, 1) := by decide +kernel
theorem dX4_gales_3 : decode cX4_gales 3 = .ok (.ldc2_w 166, 3) := by decide +kernel
theorem dX4_gales_6 : decode cX4_gales 6 = .ok (.invokestatic 43, 3) := by decide +kernel
theorem dX4_gales_9 : decode cX4_gales 9 = .ok (.ifCond .ne 10, 3) := by decide +kernel
theorem dX4_gales_12 : decode cX4_gales 12 = .ok (.aload_n 0, 1) := by decide +kernel
theorem dX4_gales_13 : decode cX4_gales 13 = .ok (.ldc 40, 2) := by decide +kernel
theorem dX4_gales_15 : decode cX4_gales 15 = .ok (.invokevirtual 48, 3) := by decide +kernel
theorem dX4_gales_18 : decode cX4_gales 18 = .ok (.ireturn, 1) := by decide +kernel
theorem dX4_gales_19 : decode cX4_gales 19 = .ok (.aload_n 0, 1) := by decide +kernel
theorem dX4_gales_20 : decode cX4_gales 20 = .ok (.getfield 7, 3) := by decide +kernel
theorem dX4_gales_23 : decode cX4_gales 23 = .ok (.iconst 1, 1) := by decide +kernel
theorem dX4_gales_24 : decode cX4_gales 24 = .ok (.iaload, 1) := by decide +kernel
theorem dX4_gales_25 : decode cX4_gales 25 = .ok (.iload_n 1, 1) := by decide +kernel
theorem dX4_gales_26 : decode cX4_gales 26 = .ok (.iadd, 1) := by decide +kernel
theorem dX4_gales_27 : decode cX4_gales 27 = .ok (.ldc 120, 2) := by decide +kernel
theorem dX4_gales_29 : decode cX4_gales 29 = .ok (.if_icmp .le 10, 3) := by decide +kernel
theorem dX4_gales_32 : decode cX4_gales 32 = .ok (.aload_n 0, 1) := by decide +kernel
theorem dX4_gales_33 : decode cX4_gales 33 = .ok (.ldc 121, 2) := by decide +kernel
theorem dX4_gales_35 : decode cX4_gales 35 = .ok (.invokevirtual 48, 3) := by decide +kernel
theorem dX4_gales_38 : decode cX4_gales 38 = .ok (.ireturn, 1) := by decide +kernel
theorem dX4_gales_39 : decode cX4_gales 39 = .ok (.iconst 0, 1) := by decide +kernel
theorem dX4_gales_40 : decode cX4_gales 40 = .ok (.istore_n 2, 1) := by decide +kernel
theorem dX4_gales_41 : decode cX4_gales 41 = .ok (.iload_n 2, 1) := by decide +kernel
theorem dX4_gales_42 : decode cX4_gales 42 = .ok (.iload_n 1, 1) := by decide +kernel
theorem dX4_gales_43 : decode cX4_gales 43 = .ok (.if_icmp .ge 43, 3) := by decide +kernel
theorem dX4_gales_46 : decode cX4_gales 46 = .ok (.aload_n 0, 1) := by decide +kernel
theorem dX4_gales_47 : decode cX4_gales 47 = .ok (.getfield 7, 3) := by decide +kernel
theorem dX4_gales_50 : decode cX4_gales 50 = .ok (.iconst 3, 1) := by decide +kernel
theorem dX4_gales_51 : decode cX4_gales 51 = .ok (.aload_n 0, 1) := by decide +kernel
theorem dX4_gales_52 : decode cX4_gales 52 = .ok (.invokevirtual 186, 3) := by decide +kernel
theorem dX4_gales_55 : decode cX4_gales 55 = .ok (.bipush 10, 2) := by decide +kernel
theorem dX4_gales_57 : decode cX4_gales 57 = .ok (.irem, 1) := by decide +kernel
theorem dX4_gales_58 : decode cX4_gales 58 = .ok (.iastore, 1) := by decide +kernel
theorem dX4_gales_59 : decode cX4_gales 59 = .ok (.aload_n 0, 1) := by decide +kernel
theorem dX4_gales_60 : decode cX4_gales 60 = .ok (.getfield 7, 3) := by decide +kernel
theorem dX4_gales_63 : decode cX4_gales 63 = .ok (.bipush 13, 2) := by decide +kernel
theorem dX4_gales_65 : decode cX4_gales 65 = .ok (.aload_n 0, 1) := by decide +kernel
theorem dX4_gales_66 : decode cX4_gales 66 = .ok (.invokevirtual 186, 3) := by decide +kernel
theorem dX4_gales_69 : decode cX4_gales 69 = .ok (.bipush 8, 2) := by decide +kernel
theorem dX4_gales_71 : decode cX4_gales 71 = .ok (.irem, 1) := by decide +kernel
theorem dX4_gales_72 : decode cX4_gales 72 = .ok (.iadd, 1) := by decide +kernel
theorem dX4_gales_73 : decode cX4_gales 73 = .ok (.iconst 2, 1) := by decide +kernel
theorem dX4_gales_74 : decode cX4_gales 74 = .ok (.iastore, 1) := by decide +kernel
theorem dX4_gales_75 : decode cX4_gales 75 = .ok (.aload_n 0, 1) := by decide +kernel
theorem dX4_gales_76 : decode cX4_gales 76 = .ok (.iconst 0, 1) := by decide +kernel
theorem dX4_gales_77 : decode cX4_gales 77 = .ok (.invokevirtual 115, 3) := by decide +kernel
theorem dX4_gales_80 : decode cX4_gales 80 = .ok (.iinc 2 1, 3) := by decide +kernel
theorem dX4_gales_83 : decode cX4_gales 83 = .ok (.goto (-42), 3) := by decide +kernel
theorem dX4_gales_86 : decode cX4_gales 86 = .ok (.aload_n 0, 1) := by decide +kernel
theorem dX4_gales_87 : decode cX4_gales 87 = .ok (.invokevirtual 132, 3) := by decide +kernel
theorem dX4_gales_90 : decode cX4_gales 90 = .ok (.ireturn, 1) := by decide +kernel
theorem dX4_odds_0 : decode cX4_odds 0 = .ok (.iload_n 1, 1) := by decide +kernel
theorem dX4_odds_1 : decode cX4_odds 1 = .ok (.i2l, 1) := by decide +kernel
theorem dX4_odds_2 : decode cX4_odds 2 = .ok (.lconst 0, 1) := by decide +kernel
theorem dX4_odds_3 : decode cX4_odds 3 = .ok (.ldc2_w 166, 3) := by decide +kernel
theorem dX4_odds_6 : decode cX4_odds 6 = .ok (.invokestatic 43, 3) := by decide +kernel
theorem dX4_odds_9 : decode cX4_odds 9 = .ok (.ifCond .eq 13, 3) := by decide +kernel
theorem dX4_odds_12 : decode cX4_odds 12 = .ok (.iload_n 2, 1) := by decide +kernel
theorem dX4_odds_13 : decode cX4_odds 13 = .ok (.i2l, 1) := by decide +kernel
theorem dX4_odds_14 : decode cX4_odds 14 = .ok (.lconst 0, 1) := by decide +kernel
theorem dX4_odds_15 : decode cX4_odds 15 = .ok (.lconst 1, 1) := by decide +kernel
theorem dX4_odds_16 : decode cX4_odds 16 = .ok (.invokestatic 43, 3) := by decide +kernel
theorem dX4_odds_19 : decode cX4_odds 19 = .ok (.ifCond .ne 11, 3) := by decide +kernel
theorem dX4_odds_22 : decode cX4_odds 22 = .ok (.aload_n 0, 1) := by decide +kernel
theorem dX4_odds_23 : decode cX4_odds 23 = .ok (.ldc 40, 2) := by decide +kernel
theorem dX4_odds_25 : decode cX4_odds 25 = .ok (.invokevirtual 48, 3) := by decide +kernel
theorem dX4_odds_28 : decode cX4_odds 28 = .ok (.i2l, 1) := by decide +kernel
theorem dX4_odds_29 : decode cX4_odds 29 = .ok (.lreturn, 1) := by decide +kernel
theorem dX4_odds_30 : decode cX4_odds 30 = .ok (.lconst 1, 1) := by decide +kernel
theorem dX4_odds_31 : decode cX4_odds 31 = .ok (.lstore_n 3, 1) := by decide +kernel
theorem dX4_odds_32 : decode cX4_odds 32 = .ok (.lconst 1, 1) := by decide +kernel
theorem dX4_odds_33 : decode cX4_odds 33 = .ok (.lstore 5, 2) := by decide +kernel
theorem dX4_odds_35 : decode cX4_odds 35 = .ok (.aload_n 0, 1) := by decide +kernel
theorem dX4_odds_36 : decode cX4_odds 36 = .ok (.invokevirtual 132, 3) := by decide +kernel
theorem dX4_odds_39 : decode cX4_odds 39 = .ok (.invokestatic 168, 3) := by decide +kernel
theorem dX4_odds_42 : decode cX4_odds 42 = .ok (.istore 7, 2) := by decide +kernel
theorem dX4_odds_44 : decode cX4_odds 44 = .ok (.iconst 0, 1) := by decide +kernel
theorem dX4_odds_45 : decode cX4_odds 45 = .ok (.istore 8, 2) := by decide +kernel
theorem dX4_odds_47 : decode cX4_odds 47 = .ok (.iload 8, 2) := by decide +kernel
theorem dX4_odds_49 : decode cX4_odds 49 = .ok (.iload_n 1, 1) := by decide +kernel
theorem dX4_odds_50 : decode cX4_odds 50 = .ok (.if_icmp .ge 23, 3) := by decide +kernel
theorem dX4_odds_53 : decode cX4_odds 53 = .ok (.lload_n 3, 1) := by decide +kernel
theorem dX4_odds_54 : decode cX4_odds 54 = .ok (.iload 7, 2) := by decide +kernel
theorem dX4_odds_56 : decode cX4_odds 56 = .ok (.i2l, 1) := by decide +kernel
theorem dX4_odds_57 : decode cX4_odds 57 = .ok (.lmul, 1) := by decide +kernel
theorem dX4_odds_58 : decode cX4_odds 58 = .ok (.lstore_n 3, 1) := by decide +kernel
theorem dX4_odds_59 : decode cX4_odds 59 = .ok (.lload 5, 2) := by decide +kernel
theorem dX4_odds_61 : decode cX4_odds 61 = .ok (.ldc2_w 189, 3) := by decide +kernel
theorem dX4_odds_64 : decode cX4_odds 64 = .ok (.lmul, 1) := by decide +kernel
theorem dX4_odds_65 : decode cX4_odds 65 = .ok (.lstore 5, 2) := by decide +kernel
theorem dX4_odds_67 : decode cX4_odds 67 = .ok (.iinc 8 1, 3) := by decide +kernel
theorem dX4_odds_70 : decode cX4_odds 70 = .ok (.goto (-23), 3) := by decide +kernel
theorem dX4_odds_73 : decode cX4_odds 73 = .ok (.lload_n 3, 1) := by decide +kernel
theorem dX4_odds_74 : decode cX4_odds 74 = .ok (.lconst 0, 1) := by decide +kernel
theorem dX4_odds_75 : decode cX4_odds 75 = .ok (.lcmp, 1) := by decide +kernel
theorem dX4_odds_76 : decode cX4_odds 76 = .ok (.ifCond .ne 7, 3) := by decide +kernel
theorem dX4_odds_79 : decode cX4_odds 79 = .ok (.lconst 1, 1) := by decide +kernel
theorem dX4_odds_80 : decode cX4_odds 80 = .ok (.goto 5, 3) := by decide +kernel
theorem dX4_odds_83 : decode cX4_odds 83 = .ok (.lload 5, 2) := by decide +kernel
theorem dX4_odds_85 : decode cX4_odds 85 = .ok (.lstore 5, 2) := by decide +kernel
theorem dX4_odds_87 : decode cX4_odds 87 = .ok (.lload_n 3, 1) := by decide +kernel
theorem dX4_odds_88 : decode cX4_odds 88 = .ok (.ldc2_w 191, 3) := by decide +kernel
theorem dX4_odds_91 : decode cX4_odds 91 = .ok (.lrem, 1) := by decide +kernel
theorem dX4_odds_92 : decode cX4_odds 92 = .ok (.lconst 0, 1) := by decide +kernel
theorem dX4_odds_93 : decode cX4_odds 93 = .ok (.lcmp, 1) := by decide +kernel
theorem dX4_odds_94 : decode cX4_odds 94 = .ok (.ifCond .ne 31, 3) := by decide +kernel
theorem dX4_odds_97 : decode cX4_odds 97 = .ok (.lload 5, 2) := by decide +kernel
theorem dX4_odds_99 : decode cX4_odds 99 = .ok (.ldc2_w 191, 3) := by decide +kernel
theorem dX4_odds_102 : decode cX4_odds 102 = .ok (.lrem, 1) := by decide +kernel
theorem dX4_odds_103 : decode cX4_odds 103 = .ok (.lconst 0, 1) := by decide +kernel
theorem dX4_odds_104 : decode cX4_odds 104 = .ok (.lcmp, 1) := by decide +kernel
theorem dX4_odds_105 : decode cX4_odds 105 = .ok (.ifCond .ne 20, 3) := by decide +kernel
theorem dX4_odds_108 : decode cX4_odds 108 = .ok (.lload_n 3, 1) := by decide +kernel
theorem dX4_odds_109 : decode cX4_odds 109 = .ok (.ldc2_w 191, 3) := by decide +kernel
theorem dX4_odds_112 : decode cX4_odds 112 = .ok (.ldiv, 1) := by decide +kernel
theorem dX4_odds_113 : decode cX4_odds 113 = .ok (.lstore_n 3, 1) := by decide +kernel
theorem dX4_odds_114 : decode cX4_odds 114 = .ok (.lload 5, 2) := by decide +kernel
theorem dX4_odds_116 : decode cX4_odds 116 = .ok (.ldc2_w 191, 3) := by decide +kernel
theorem dX4_odds_119 : decode cX4_odds 119 = .ok (.ldiv, 1) := by decide +kernel
theorem dX4_odds_120 : decode cX4_odds 120 = .ok (.lstore 5, 2) := by decide +kernel
theorem dX4_odds_122 : decode cX4_odds 122 = .ok (.goto (-35), 3) := by decide +kernel
theorem dX4_odds_125 : decode cX4_odds 125 = .ok (.iload_n 2, 1) := by decide +kernel
theorem dX4_odds_126 : decode cX4_odds 126 = .ok (.ifCond .ne 7, 3) := by decide +kernel
theorem dX4_odds_129 : decode cX4_odds 129 = .ok (.lload_n 3, 1) := by decide +kernel
theorem dX4_odds_130 : decode cX4_odds 130 = .ok (.goto 5, 3) := by decide +kernel
theorem dX4_odds_133 : decode cX4_odds 133 = .ok (.lload 5, 2) := by decide +kernel
theorem dX4_odds_135 : decode cX4_odds 135 = .ok (.lreturn, 1) := by decide +kernel
theorem dX4_seed_0 : decode cX4_seed 0 = .ok (.aload_n 0, 1) := by decide +kernel
theorem dX4_seed_1 : decode cX4_seed 1 = .ok (.iconst 2, 1) := by decide +kernel
theorem dX4_seed_2 : decode cX4_seed 2 = .ok (.iload_n 1, 1) := by decide +kernel
theorem dX4_seed_3 : decode cX4_seed 3 = .ok (.invokevirtual 58, 3) := by decide +kernel
theorem dX4_seed_6 : decode cX4_seed 6 = .ok (.ireturn, 1) := by decide +kernel
theorem dX4_feed_0 : decode cX4_feed 0 = .ok (.iload_n 2, 1) := by decide +kernel
theorem dX4_feed_1 : decode cX4_feed 1 = .ok (.i2l, 1) := by decide +kernel
theorem dX4_feed_2 : decode cX4_feed 2 = .ok (.lconst 1, 1) := by decide +kernel
theorem dX4_feed_3 : decode cX4_feed 3 = .ok (.ldc2_w 97, 3) := by decide +kernel
theorem dX4_feed_6 : decode cX4_feed 6 = .ok (.invokestatic 43, 3) := by decide +kernel
theorem dX4_feed_9 : decode cX4_feed 9 = .ok (.ifCond .ne 10, 3) := by decide +kernel
theorem dX4_feed_12 : decode cX4_feed 12 = .ok (.aload_n 0, 1) := by decide +kernel
theorem dX4_feed_13 : decode cX4_feed 13 = .ok (.ldc 40, 2) := by decide +kernel
theorem dX4_feed_15 : decode cX4_feed 15 = .ok (.invokevirtual 48, 3) := by decide +kernel
theorem dX4_feed_18 : decode cX4_feed 18 = .ok (.ireturn, 1) := by decide +kernel
theorem dX4_feed_19 : decode cX4_feed 19 = .ok (.aload_n 0, 1) := by decide +kernel
theorem dX4_feed_20 : decode cX4_feed 20 = .ok (.getfield 193, 3) := by decide +kernel
theorem dX4_feed_23 : decode cX4_feed 23 = .ok (.iload_n 2, 1) := by decide +kernel
theorem dX4_feed_24 : decode cX4_feed 24 = .ok (.iadd, 1) := by decide +kernel
theorem dX4_feed_25 : decode cX4_feed 25 = .ok (.bipush 120, 2) := by decide +kernel
theorem dX4_feed_27 : decode cX4_feed 27 = .ok (.if_icmp .le 10, 3) := by decide +kernel
theorem dX4_feed_30 : decode cX4_feed 30 = .ok (.aload_n 0, 1) := by decide +kernel
theorem dX4_feed_31 : decode cX4_feed 31 = .ok (.ldc 81, 2) := by decide +kernel
theorem dX4_feed_33 : decode cX4_feed 33 = .ok (.invokevirtual 48, 3) := by decide +kernel
theorem dX4_feed_36 : decode cX4_feed 36 = .ok (.ireturn, 1) := by decide +kernel
theorem dX4_feed_37 : decode cX4_feed 37 = .ok (.iload_n 2, 1) := by decide +kernel
theorem dX4_feed_38 : decode cX4_feed 38 = .ok (.iconst 1, 1) := by decide +kernel
theorem dX4_feed_39 : decode cX4_feed 39 = .ok (.isub, 1) := by decide +kernel
theorem dX4_feed_40 : decode cX4_feed 40 = .ok (.istore_n 3, 1) := by decide +kernel
theorem dX4_feed_41 : decode cX4_feed 41 = .ok (.iload_n 3, 1) := by decide +kernel
theorem dX4_feed_42 : decode cX4_feed 42 = .ok (.ifCond .lt 38, 3) := by decide +kernel
theorem dX4_feed_45 : decode cX4_feed 45 = .ok (.aload_n 0, 1) := by decide +kernel
theorem dX4_feed_46 : decode cX4_feed 46 = .ok (.getfield 25, 3) := by decide +kernel
theorem dX4_feed_49 : decode cX4_feed 49 = .ok (.aload_n 0, 1) := by decide +kernel
theorem dX4_feed_50 : decode cX4_feed 50 = .ok (.getfield 193, 3) := by decide +kernel
theorem dX4_feed_53 : decode cX4_feed 53 = .ok (.iload_n 1, 1) := by decide +kernel
theorem dX4_feed_54 : decode cX4_feed 54 = .ok (.bipush 8, 2) := by decide +kernel
theorem dX4_feed_56 : decode cX4_feed 56 = .ok (.iload_n 3, 1) := by decide +kernel
theorem dX4_feed_57 : decode cX4_feed 57 = .ok (.imul, 1) := by decide +kernel
theorem dX4_feed_58 : decode cX4_feed 58 = .ok (.ishr, 1) := by decide +kernel
theorem dX4_feed_59 : decode cX4_feed 59 = .ok (.sipush 255, 3) := by decide +kernel
theorem dX4_feed_62 : decode cX4_feed 62 = .ok (.iand, 1) := by decide +kernel
theorem dX4_feed_63 : decode cX4_feed 63 = .ok (.iastore, 1) := by decide +kernel
theorem dX4_feed_64 : decode cX4_feed 64 = .ok (.aload_n 0, 1) := by decide +kernel
theorem dX4_feed_65 : decode cX4_feed 65 = .ok (.dup, 1) := by decide +kernel
theorem dX4_feed_66 : decode cX4_feed 66 = .ok (.getfield 193, 3) := by decide +kernel
theorem dX4_feed_69 : decode cX4_feed 69 = .ok (.iconst 1, 1) := by decide +kernel
theorem dX4_feed_70 : decode cX4_feed 70 = .ok (.iadd, 1) := by decide +kernel
theorem dX4_feed_71 : decode cX4_feed 71 = .ok (.putfield 193, 3) := by decide +kernel
theorem dX4_feed_74 : decode cX4_feed 74 = .ok (.iinc 3 (-1), 3) := by decide +kernel
theorem dX4_feed_77 : decode cX4_feed 77 = .ok (.goto (-36), 3) := by decide +kernel
theorem dX4_feed_80 : decode cX4_feed 80 = .ok (.aload_n 0, 1) := by decide +kernel
theorem dX4_feed_81 : decode cX4_feed 81 = .ok (.getfield 193, 3) := by decide +kernel
theorem dX4_feed_84 : decode cX4_feed 84 = .ok (.ireturn, 1) := by decide +kernel
theorem dX4_wipe_0 : decode cX4_wipe 0 = .ok (.aload_n 0, 1) := by decide +kernel
theorem dX4_wipe_1 : decode cX4_wipe 1 = .ok (.getfield 193, 3) := by decide +kernel
theorem dX4_wipe_4 : decode cX4_wipe 4 = .ok (.istore_n 1, 1) := by decide +kernel
theorem dX4_wipe_5 : decode cX4_wipe 5 = .ok (.aload_n 0, 1) := by decide +kernel
theorem dX4_wipe_6 : decode cX4_wipe 6 = .ok (.iconst 0, 1) := by decide +kernel
theorem dX4_wipe_7 : decode cX4_wipe 7 = .ok (.putfield 193, 3) := by decide +kernel
theorem dX4_wipe_10 : decode cX4_wipe 10 = .ok (.iload_n 1, 1) := by decide +kernel
theorem dX4_wipe_11 : decode cX4_wipe 11 = .ok (.ireturn, 1) := by decide +kernel
theorem dX4_isLetter_0 : decode cX4_isLetter 0 = .ok (.iload_n 0, 1) := by decide +kernel
theorem dX4_isLetter_1 : decode cX4_isLetter 1 = .ok (.bipush 97, 2) := by decide +kernel
theorem dX4_isLetter_3 : decode cX4_isLetter 3 = .ok (.if_icmp .lt 13, 3) := by decide +kernel
theorem dX4_isLetter_6 : decode cX4_isLetter 6 = .ok (.iload_n 0, 1) := by decide +kernel
theorem dX4_isLetter_7 : decode cX4_isLetter 7 = .ok (.bipush 122, 2) := by decide +kernel
theorem dX4_isLetter_9 : decode cX4_isLetter 9 = .ok (.if_icmp .gt 7, 3) := by decide +kernel
theorem dX4_isLetter_12 : decode cX4_isLetter 12 = .ok (.iconst 1, 1) := by decide +kernel
theorem dX4_isLetter_13 : decode cX4_isLetter 13 = .ok (.goto 4, 3) := by decide +kernel
theorem dX4_isLetter_16 : decode cX4_isLetter 16 = .ok (.iconst 0, 1) := by decide +kernel
theorem dX4_isLetter_17 : decode cX4_isLetter 17 = .ok (.ireturn, 1) := by decide +kernel
theorem dX4_isDigit_0 : decode cX4_isDigit 0 = .ok (.iload_n 0, 1) := by decide +kernel
theorem dX4_isDigit_1 : decode cX4_isDigit 1 = .ok (.bipush 48, 2) := by decide +kernel
theorem dX4_isDigit_3 : decode cX4_isDigit 3 = .ok (.if_icmp .lt 13, 3) := by decide +kernel
theorem dX4_isDigit_6 : decode cX4_isDigit 6 = .ok (.iload_n 0, 1) := by decide +kernel
theorem dX4_isDigit_7 : decode cX4_isDigit 7 = .ok (.bipush 57, 2) := by decide +kernel
theorem dX4_isDigit_9 : decode cX4_isDigit 9 = .ok (.if_icmp .gt 7, 3) := by decide +kernel
theorem dX4_isDigit_12 : decode cX4_isDigit 12 = .ok (.iconst 1, 1) := by decide +kernel
theorem dX4_isDigit_13 : decode cX4_isDigit 13 = .ok (.goto 4, 3) := by decide +kernel
theorem dX4_isDigit_16 : decode cX4_isDigit 16 = .ok (.iconst 0, 1) := by decide +kernel
theorem dX4_isDigit_17 : decode cX4_isDigit 17 = .ok (.ireturn, 1) := by decide +kernel
theorem dX4_byteAt_0 : decode cX4_byteAt 0 = .ok (.iload_n 1, 1) := by decide +kernel
theorem dX4_byteAt_1 : decode cX4_byteAt 1 = .ok (.aload_n 0, 1) := by decide +kernel
theorem dX4_byteAt_2 : decode cX4_byteAt 2 = .ok (.getfield 193, 3) := by decide +kernel
theorem dX4_byteAt_5 : decode cX4_byteAt 5 = .ok (.if_icmp .ge 12, 3) := by decide +kernel
theorem dX4_byteAt_8 : decode cX4_byteAt 8 = .ok (.aload_n 0, 1) := by decide +kernel
theorem dX4_byteAt_9 : decode cX4_byteAt 9 = .ok (.getfield 25, 3) := by decide +kernel
theorem dX4_byteAt_12 : decode cX4_byteAt 12 = .ok (.iload_n 1, 1) := by decide +kernel
theorem dX4_byteAt_13 : decode cX4_byteAt 13 = .ok (.iaload, 1) := by decide +kernel
theorem dX4_byteAt_14 : decode cX4_byteAt 14 = .ok (.goto 4, 3) := by decide +kernel
theorem dX4_byteAt_17 : decode cX4_byteAt 17 = .ok (.iconst (-1), 1) := by decide +kernel
theorem dX4_byteAt_18 : decode cX4_byteAt 18 = .ok (.ireturn, 1) := by decide +kernel
theorem dX4_nextToken_0 : decode cX4_nextToken 0 = .ok (.aload_n 0, 1) := by decide +kernel
theorem dX4_nextToken_1 : decode cX4_nextToken 1 = .ok (.aload_n 0, 1) := by decide +kernel
theorem dX4_nextToken_2 : decode cX4_nextToken 2 = .ok (.getfield 197, 3) := by decide +kernel
theorem dX4_nextToken_5 : decode cX4_nextToken 5 = .ok (.putfield 200, 3) := by decide +kernel
theorem dX4_nextToken_8 : decode cX4_nextToken 8 = .ok (.aload_n 0, 1) := by decide +kernel
theorem dX4_nextToken_9 : decode cX4_nextToken 9 = .ok (.aload_n 0, 1) := by decide +kernel
theorem dX4_nextToken_10 : decode cX4_nextToken 10 = .ok (.getfield 200, 3) := by decide +kernel
theorem dX4_nextToken_13 : decode cX4_nextToken 13 = .ok (.invokevirtual 203, 3) := by decide +kernel
theorem dX4_nextToken_16 : decode cX4_nextToken 16 = .ok (.bipush 32, 2) := by decide +kernel
theorem dX4_nextToken_18 : decode cX4_nextToken 18 = .ok (.if_icmp .ne 16, 3) := by decide +kernel
theorem dX4_nextToken_21 : decode cX4_nextToken 21 = .ok (.aload_n 0, 1) := by decide +kernel
theorem dX4_nextToken_22 : decode cX4_nextToken 22 = .ok (.dup, 1) := by decide +kernel
theorem dX4_nextToken_23 : decode cX4_nextToken 23 = .ok (.getfield 200, 3) := by decide +kernel
theorem dX4_nextToken_26 : decode cX4_nextToken 26 = .ok (.iconst 1, 1) := by decide +kernel
theorem dX4_nextToken_27 : decode cX4_nextToken 27 = .ok (.iadd, 1) := by decide +kernel
theorem dX4_nextToken_28 : decode cX4_nextToken 28 = .ok (.putfield 200, 3) := by decide +kernel
theorem dX4_nextToken_31 : decode cX4_nextToken 31 = .ok (.goto (-23), 3) := by decide +kernel
theorem dX4_nextToken_34 : decode cX4_nextToken 34 = .ok (.aload_n 0, 1) := by decide +kernel
theorem dX4_nextToken_35 : decode cX4_nextToken 35 = .ok (.aload_n 0, 1) := by decide +kernel
theorem dX4_nextToken_36 : decode cX4_nextToken 36 = .ok (.getfield 200, 3) := by decide +kernel
theorem dX4_nextToken_39 : decode cX4_nextToken 39 = .ok (.putfield 197, 3) := by decide +kernel
theorem dX4_nextToken_42 : decode cX4_nextToken 42 = .ok (.aload_n 0, 1) := by decide +kernel
theorem dX4_nextToken_43 : decode cX4_nextToken 43 = .ok (.aload_n 0, 1) := by decide +kernel
theorem dX4_nextToken_44 : decode cX4_nextToken 44 = .ok (.getfield 200, 3) := by decide +kernel
theorem dX4_nextToken_47 : decode cX4_nextToken 47 = .ok (.invokevirtual 203, 3) := by decide +kernel
theorem dX4_nextToken_50 : decode cX4_nextToken 50 = .ok (.istore_n 1, 1) := by decide +kernel
theorem dX4_nextToken_51 : decode cX4_nextToken 51 = .ok (.aload_n 0, 1) := by decide +kernel
theorem dX4_nextToken_52 : decode cX4_nextToken 52 = .ok (.iload_n 1, 1) := by decide +kernel
theorem dX4_nextToken_53 : decode cX4_nextToken 53 = .ok (.ifCond .ge 7, 3) := by decide +kernel
theorem dX4_nextToken_56 : decode cX4_nextToken 56 = .ok (.iconst 0, 1) := by decide +kernel
theorem dX4_nextToken_57 : decode cX4_nextToken 57 = .ok (.goto 36, 3) := by decide +kernel
theorem dX4_nextToken_60 : decode cX4_nextToken 60 = .ok (.iload_n 1, 1) := by decide +kernel
theorem dX4_nextToken_61 : decode cX4_nextToken 61 = .ok (.invokestatic 206, 3) := by decide +kernel
theorem dX4_nextToken_64 : decode cX4_nextToken 64 = .ok (.ifCond .eq 7, 3) := by decide +kernel
theorem dX4_nextToken_67 : decode cX4_nextToken 67 = .ok (.iconst 1, 1) := by decide +kernel
theorem dX4_nextToken_68 : decode cX4_nextToken 68 = .ok (.goto 25, 3) := by decide +kernel
theorem dX4_nextToken_71 : decode cX4_nextToken 71 = .ok (.iload_n 1, 1) := by decide +kernel
theorem dX4_nextToken_72 : decode cX4_nextToken 72 = .ok (.invokestatic 209, 3) := by decide +kernel
theorem dX4_nextToken_75 : decode cX4_nextToken 75 = .ok (.ifCond .eq 7, 3) := by decide +kernel
theorem dX4_nextToken_78 : decode cX4_nextToken 78 = .ok (.iconst 2, 1) := by decide +kernel
theorem dX4_nextToken_79 : decode cX4_nextToken 79 = .ok (.goto 14, 3) := by decide +kernel
theorem dX4_nextToken_82 : decode cX4_nextToken 82 = .ok (.iload_n 1, 1) := by decide +kernel
theorem dX4_nextToken_83 : decode cX4_nextToken 83 = .ok (.bipush 59, 2) := by decide +kernel
theorem dX4_nextToken_85 : decode cX4_nextToken 85 = .ok (.if_icmp .ne 7, 3) := by decide +kernel
theorem dX4_nextToken_88 : decode cX4_nextToken 88 = .ok (.iconst 3, 1) := by decide +kernel
theorem dX4_nextToken_89 : decode cX4_nextToken 89 = .ok (.goto 4, 3) := by decide +kernel
theorem dX4_nextToken_92 : decode cX4_nextToken 92 = .ok (.iconst 4, 1) := by decide +kernel
theorem dX4_nextToken_93 : decode cX4_nextToken 93 = .ok (.putfield 212, 3) := by decide +kernel
theorem dX4_nextToken_96 : decode cX4_nextToken 96 = .ok (.aload_n 0, 1) := by decide +kernel
theorem dX4_nextToken_97 : decode cX4_nextToken 97 = .ok (.iconst 0, 1) := by decide +kernel
theorem dX4_nextToken_98 : decode cX4_nextToken 98 = .ok (.putfield 215, 3) := by decide +kernel
theorem dX4_nextToken_101 : decode cX4_nextToken 101 = .ok (.aload_n 0, 1) := by decide +kernel
theorem dX4_nextToken_102 : decode cX4_nextToken 102 = .ok (.getfield 212, 3) := by decide +kernel
theorem dX4_nextToken_105 : decode cX4_nextToken 105 = .ok (.iconst 1, 1) := by decide +kernel
theorem dX4_nextToken_106 : decode cX4_nextToken 106 = .ok (.if_icmp .ne 30, 3) := by decide +kernel
theorem dX4_nextToken_109 : decode cX4_nextToken 109 = .ok (.aload_n 0, 1) := by decide +kernel
theorem dX4_nextToken_110 : decode cX4_nextToken 110 = .ok (.aload_n 0, 1) := by decide +kernel
theorem dX4_nextToken_111 : decode cX4_nextToken 111 = .ok (.getfield 197, 3) := by decide +kernel
theorem dX4_nextToken_114 : decode cX4_nextToken 114 = .ok (.invokevirtual 203, 3) := by decide +kernel
theorem dX4_nextToken_117 : decode cX4_nextToken 117 = .ok (.invokestatic 206, 3) := by decide +kernel
theorem dX4_nextToken_120 : decode cX4_nextToken 120 = .ok (.ifCond .eq 16, 3) := by decide +kernel
theorem dX4_nextToken_123 : decode cX4_nextToken 123 = .ok (.aload_n 0, 1) := by decide +kernel
theorem dX4_nextToken_124 : decode cX4_nextToken 124 = .ok (.dup, 1) := by decide +kernel
theorem dX4_nextToken_125 : decode cX4_nextToken 125 = .ok (.getfield 197, 3) := by decide +kernel
theorem dX4_nextToken_128 : decode cX4_nextToken 128 = .ok (.iconst 1, 1) := by decide +kernel
theorem dX4_nextToken_129 : decode cX4_nextToken 129 = .ok (.iadd, 1) := by decide +kernel
theorem dX4_nextToken_130 : decode cX4_nextToken 130 = .ok (.putfield 197, 3) := by decide +kernel
theorem dX4_nextToken_133 : decode cX4_nextToken 133 = .ok (.goto (-32), 3) := by decide +kernel
theorem dX4_nextToken_136 : decode cX4_nextToken 136 = .ok (.aload_n 0, 1) := by decide +kernel
theorem dX4_nextToken_137 : decode cX4_nextToken 137 = .ok (.getfield 212, 3) := by decide +kernel
theorem dX4_nextToken_140 : decode cX4_nextToken 140 = .ok (.iconst 2, 1) := by decide +kernel
theorem dX4_nextToken_141 : decode cX4_nextToken 141 = .ok (.if_icmp .ne 70, 3) := by decide +kernel
theorem dX4_nextToken_144 : decode cX4_nextToken 144 = .ok (.aload_n 0, 1) := by decide +kernel
theorem dX4_nextToken_145 : decode cX4_nextToken 145 = .ok (.aload_n 0, 1) := by decide +kernel
theorem dX4_nextToken_146 : decode cX4_nextToken 146 = .ok (.getfield 197, 3) := by decide +kernel
theorem dX4_nextToken_149 : decode cX4_nextToken 149 = .ok (.invokevirtual 203, 3) := by decide +kernel
theorem dX4_nextToken_152 : decode cX4_nextToken 152 = .ok (.invokestatic 209, 3) := by decide +kernel
theorem dX4_nextToken_155 : decode cX4_nextToken 155 = .ok (.ifCond .eq 56, 3) := by decide +kernel
theorem dX4_nextToken_158 : decode cX4_nextToken 158 = .ok (.aload_n 0, 1) := by decide +kernel
theorem dX4_nextToken_159 : decode cX4_nextToken 159 = .ok (.aload_n 0, 1) := by decide +kernel
theorem dX4_nextToken_160 : decode cX4_nextToken 160 = .ok (.getfield 215, 3) := by decide +kernel
theorem dX4_nextToken_163 : decode cX4_nextToken 163 = .ok (.sipush 9999, 3) := by decide +kernel
theorem dX4_nextToken_166 : decode cX4_nextToken 166 = .ok (.if_icmp .le 10, 3) := by decide +kernel
theorem dX4_nextToken_169 : decode cX4_nextToken 169 = .ok (.aload_n 0, 1) := by decide +kernel
theorem dX4_nextToken_170 : decode cX4_nextToken 170 = .ok (.getfield 215, 3) := by decide +kernel
theorem dX4_nextToken_173 : decode cX4_nextToken 173 = .ok (.goto 22, 3) := by decide +kernel
theorem dX4_nextToken_176 : decode cX4_nextToken 176 = .ok (.bipush 10, 2) := by decide +kernel
theorem dX4_nextToken_178 : decode cX4_nextToken 178 = .ok (.aload_n 0, 1) := by decide +kernel
theorem dX4_nextToken_179 : decode cX4_nextToken 179 = .ok (.getfield 215, 3) := by decide +kernel
theorem dX4_nextToken_182 : decode cX4_nextToken 182 = .ok (.imul, 1) := by decide +kernel
theorem dX4_nextToken_183 : decode cX4_nextToken 183 = .ok (.aload_n 0, 1) := by decide +kernel
theorem dX4_nextToken_184 : decode cX4_nextToken 184 = .ok (.aload_n 0, 1) := by decide +kernel
theorem dX4_nextToken_185 : decode cX4_nextToken 185 = .ok (.getfield 197, 3) := by decide +kernel
theorem dX4_nextToken_188 : decode cX4_nextToken 188 = .ok (.invokevirtual 203, 3) := by decide +kernel
theorem dX4_nextToken_191 : decode cX4_nextToken 191 = .ok (.iadd, 1) := by decide +kernel
theorem dX4_nextToken_192 : decode cX4_nextToken 192 = .ok (.bipush 48, 2) := by decide +kernel
theorem dX4_nextToken_194 : decode cX4_nextToken 194 = .ok (.isub, 1) := by decide +kernel
theorem dX4_nextToken_195 : decode cX4_nextToken 195 = .ok (.putfield 215, 3) := by decide +kernel
theorem dX4_nextToken_198 : decode cX4_nextToken 198 = .ok (.aload_n 0, 1) := by decide +kernel
theorem dX4_nextToken_199 : decode cX4_nextToken 199 = .ok (.dup, 1) := by decide +kernel
theorem dX4_nextToken_200 : decode cX4_nextToken 200 = .ok (.getfield 197, 3) := by decide +kernel
theorem dX4_nextToken_203 : decode cX4_nextToken 203 = .ok (.iconst 1, 1) := by decide +kernel
theorem dX4_nextToken_204 : decode cX4_nextToken 204 = .ok (.iadd, 1) := by decide +kernel
theorem dX4_nextToken_205 : decode cX4_nextToken 205 = .ok (.putfield 197, 3) := by decide +kernel
theorem dX4_nextToken_208 : decode cX4_nextToken 208 = .ok (.goto (-72), 3) := by decide +kernel
theorem dX4_nextToken_211 : decode cX4_nextToken 211 = .ok (.aload_n 0, 1) := by decide +kernel
theorem dX4_nextToken_212 : decode cX4_nextToken 212 = .ok (.dup, 1) := by decide +kernel
theorem dX4_nextToken_213 : decode cX4_nextToken 213 = .ok (.getfield 197, 3) := by decide +kernel
theorem dX4_nextToken_216 : decode cX4_nextToken 216 = .ok (.aload_n 0, 1) := by decide +kernel
theorem dX4_nextToken_217 : decode cX4_nextToken 217 = .ok (.getfield 212, 3) := by decide +kernel
theorem dX4_nextToken_220 : decode cX4_nextToken 220 = .ok (.iconst 2, 1) := by decide +kernel
theorem dX4_nextToken_221 : decode cX4_nextToken 221 = .ok (.if_icmp .le 7, 3) := by decide +kernel
theorem dX4_nextToken_224 : decode cX4_nextToken 224 = .ok (.iconst 1, 1) := by decide +kernel
theorem dX4_nextToken_225 : decode cX4_nextToken 225 = .ok (.goto 4, 3) := by decide +kernel
theorem dX4_nextToken_228 : decode cX4_nextToken 228 = .ok (.iconst 0, 1) := by decide +kernel
theorem dX4_nextToken_229 : decode cX4_nextToken 229 = .ok (.iadd, 1) := by decide +kernel
theorem dX4_nextToken_230 : decode cX4_nextToken 230 = .ok (.putfield 197, 3) := by decide +kernel
theorem dX4_nextToken_233 : decode cX4_nextToken 233 = .ok (.return_, 1) := by decide +kernel
theorem dX4_has3_0 : decode cX4_has3 0 = .ok (.aload_n 0, 1) := by decide +kernel
theorem dX4_has3_1 : decode cX4_has3 1 = .ok (.aload_n 0, 1) := by decide +kernel
theorem dX4_has3_2 : decode cX4_has3 2 = .ok (.getfield 200, 3) := by decide +kernel
theorem dX4_has3_5 : decode cX4_has3 5 = .ok (.iload_n 1, 1) := by decide +kernel
theorem dX4_has3_6 : decode cX4_has3 6 = .ok (.iadd, 1) := by decide +kernel
theorem dX4_has3_7 : decode cX4_has3 7 = .ok (.invokevirtual 203, 3) := by decide +kernel
theorem dX4_has3_10 : decode cX4_has3 10 = .ok (.iload_n 2, 1) := by decide +kernel
theorem dX4_has3_11 : decode cX4_has3 11 = .ok (.if_icmp .ne 40, 3) := by decide +kernel
theorem dX4_has3_14 : decode cX4_has3 14 = .ok (.aload_n 0, 1) := by decide +kernel
theorem dX4_has3_15 : decode cX4_has3 15 = .ok (.aload_n 0, 1) := by decide +kernel
theorem dX4_has3_16 : decode cX4_has3 16 = .ok (.getfield 200, 3) := by decide +kernel
theorem dX4_has3_19 : decode cX4_has3 19 = .ok (.iload_n 1, 1) := by decide +kernel
theorem dX4_has3_20 : decode cX4_has3 20 = .ok (.iadd, 1) := by decide +kernel
theorem dX4_has3_21 : decode cX4_has3 21 = .ok (.iconst 1, 1) := by decide +kernel
theorem dX4_has3_22 : decode cX4_has3 22 = .ok (.iadd, 1) := by decide +kernel
theorem dX4_has3_23 : decode cX4_has3 23 = .ok (.invokevirtual 203, 3) := by decide +kernel
theorem dX4_has3_26 : decode cX4_has3 26 = .ok (.iload_n 3, 1) := by decide +kernel
theorem dX4_has3_27 : decode cX4_has3 27 = .ok (.if_icmp .ne 24, 3) := by decide +kernel
theorem dX4_has3_30 : decode cX4_has3 30 = .ok (.aload_n 0, 1) := by decide +kernel
theorem dX4_has3_31 : decode cX4_has3 31 = .ok (.aload_n 0, 1) := by decide +kernel
theorem dX4_has3_32 : decode cX4_has3 32 = .ok (.getfield 200, 3) := by decide +kernel
theorem dX4_has3_35 : decode cX4_has3 35 = .ok (.iload_n 1, 1) := by decide +kernel
theorem dX4_has3_36 : decode cX4_has3 36 = .ok (.iadd, 1) := by decide +kernel
theorem dX4_has3_37 : decode cX4_has3 37 = .ok (.iconst 2, 1) := by decide +kernel
theorem dX4_has3_38 : decode cX4_has3 38 = .ok (.iadd, 1) := by decide +kernel
theorem dX4_has3_39 : decode cX4_has3 39 = .ok (.invokevirtual 203, 3) := by decide +kernel
theorem dX4_has3_42 : decode cX4_has3 42 = .ok (.iload 4, 2) := by decide +kernel
theorem dX4_has3_44 : decode cX4_has3 44 = .ok (.if_icmp .ne 7, 3) := by decide +kernel
theorem dX4_has3_47 : decode cX4_has3 47 = .ok (.iconst 1, 1) := by decide +kernel
theorem dX4_has3_48 : decode cX4_has3 48 = .ok (.goto 4, 3) := by decide +kernel
theorem dX4_has3_51 : decode cX4_has3 51 = .ok (.iconst 0, 1) := by decide +kernel
theorem dX4_has3_52 : decode cX4_has3 52 = .ok (.ireturn, 1) := by decide +kernel
theorem dX4_isWord_0 : decode cX4_isWord 0 = .ok (.aload_n 0, 1) := by decide +kernel
theorem dX4_isWord_1 : decode cX4_isWord 1 = .ok (.getfield 212, 3) := by decide +kernel
theorem dX4_isWord_4 : decode cX4_isWord 4 = .ok (.iconst 1, 1) := by decide +kernel
theorem dX4_isWord_5 : decode cX4_isWord 5 = .ok (.if_icmp .ne 20, 3) := by decide +kernel
theorem dX4_isWord_8 : decode cX4_isWord 8 = .ok (.aload_n 0, 1) := by decide +kernel
theorem dX4_isWord_9 : decode cX4_isWord 9 = .ok (.getfield 197, 3) := by decide +kernel
theorem dX4_isWord_12 : decode cX4_isWord 12 = .ok (.aload_n 0, 1) := by decide +kernel
theorem dX4_isWord_13 : decode cX4_isWord 13 = .ok (.getfield 200, 3) := by decide +kernel
theorem dX4_isWord_16 : decode cX4_isWord 16 = .ok (.isub, 1) := by decide +kernel
theorem dX4_isWord_17 : decode cX4_isWord 17 = .ok (.iload_n 1, 1) := by decide +kernel
theorem dX4_isWord_18 : decode cX4_isWord 18 = .ok (.if_icmp .ne 7, 3) := by decide +kernel
theorem dX4_isWord_21 : decode cX4_isWord 21 = .ok (.iconst 1, 1) := by decide +kernel
theorem dX4_isWord_22 : decode cX4_isWord 22 = .ok (.goto 4, 3) := by decide +kernel
theorem dX4_isWord_25 : decode cX4_isWord 25 = .ok (.iconst 0, 1) := by decide +kernel
theorem dX4_isWord_26 : decode cX4_isWord 26 = .ok (.ireturn, 1) := by decide +kernel
theorem dX4_fails_0 : decode cX4_fails 0 = .ok (.aload_n 0, 1) := by decide +kernel
theorem dX4_fails_1 : decode cX4_fails 1 = .ok (.aload_n 0, 1) := by decide +kernel
theorem dX4_fails_2 : decode cX4_fails 2 = .ok (.getfield 200, 3) := by decide +kernel
theorem dX4_fails_5 : decode cX4_fails 5 = .ok (.putfield 218, 3) := by decide +kernel
theorem dX4_fails_8 : decode cX4_fails 8 = .ok (.iconst 0, 1) := by decide +kernel
theorem dX4_fails_9 : decode cX4_fails 9 = .ok (.ireturn, 1) := by decide +kernel
theorem dX4_isFour_0 : decode cX4_isFour 0 = .ok (.aload_n 0, 1) := by decide +kernel
theorem dX4_isFour_1 : decode cX4_isFour 1 = .ok (.iconst 4, 1) := by decide +kernel
theorem dX4_isFour_2 : decode cX4_isFour 2 = .ok (.invokevirtual 221, 3) := by decide +kernel
theorem dX4_isFour_5 : decode cX4_isFour 5 = .ok (.ifCond .eq 30, 3) := by decide +kernel
theorem dX4_isFour_8 : decode cX4_isFour 8 = .ok (.aload_n 0, 1) := by decide +kernel
theorem dX4_isFour_9 : decode cX4_isFour 9 = .ok (.iconst 0, 1) := by decide +kernel
theorem dX4_isFour_10 : decode cX4_isFour 10 = .ok (.iload_n 1, 1) := by decide +kernel
theorem dX4_isFour_11 : decode cX4_isFour 11 = .ok (.iload_n 2, 1) := by decide +kernel
theorem dX4_isFour_12 : decode cX4_isFour 12 = .ok (.iload_n 3, 1) := by decide +kernel
theorem dX4_isFour_13 : decode cX4_isFour 13 = .ok (.invokevirtual 224, 3) := by decide +kernel
theorem dX4_isFour_16 : decode cX4_isFour 16 = .ok (.ifCond .eq 19, 3) := by decide +kernel
theorem dX4_isFour_19 : decode cX4_isFour 19 = .ok (.aload_n 0, 1) := by decide +kernel
theorem dX4_isFour_20 : decode cX4_isFour 20 = .ok (.iconst 1, 1) := by decide +kernel
theorem dX4_isFour_21 : decode cX4_isFour 21 = .ok (.iload_n 2, 1) := by decide +kernel
theorem dX4_isFour_22 : decode cX4_isFour 22 = .ok (.iload_n 3, 1) := by decide +kernel
theorem dX4_isFour_23 : decode cX4_isFour 23 = .ok (.iload 4, 2) := by decide +kernel
theorem dX4_isFour_25 : decode cX4_isFour 25 = .ok (.invokevirtual 224, 3) := by decide +kernel
theorem dX4_isFour_28 : decode cX4_isFour 28 = .ok (.ifCond .eq 7, 3) := by decide +kernel
theorem dX4_isFour_31 : decode cX4_isFour 31 = .ok (.iconst 1, 1) := by decide +kernel
theorem dX4_isFour_32 : decode cX4_isFour 32 = .ok (.goto 4, 3) := by decide +kernel
theorem dX4_isFour_35 : decode cX4_isFour 35 = .ok (.iconst 0, 1) := by decide +kernel
theorem dX4_isFour_36 : decode cX4_isFour 36 = .ok (.ireturn, 1) := by decide +kernel
theorem dX4_isFive_0 : decode cX4_isFive 0 = .ok (.aload_n 0, 1) := by decide +kernel
theorem dX4_isFive_1 : decode cX4_isFive 1 = .ok (.iconst 5, 1) := by decide +kernel
theorem dX4_isFive_2 : decode cX4_isFive 2 = .ok (.invokevirtual 221, 3) := by decide +kernel
theorem dX4_isFive_5 : decode cX4_isFive 5 = .ok (.ifCond .eq 31, 3) := by decide +kernel
theorem dX4_isFive_8 : decode cX4_isFive 8 = .ok (.aload_n 0, 1) := by decide +kernel
theorem dX4_isFive_9 : decode cX4_isFive 9 = .ok (.iconst 0, 1) := by decide +kernel
theorem dX4_isFive_10 : decode cX4_isFive 10 = .ok (.iload_n 1, 1) := by decide +kernel
theorem dX4_isFive_11 : decode cX4_isFive 11 = .ok (.iload_n 2, 1) := by decide +kernel
theorem dX4_isFive_12 : decode cX4_isFive 12 = .ok (.iload_n 3, 1) := by decide +kernel
theorem dX4_isFive_13 : decode cX4_isFive 13 = .ok (.invokevirtual 224, 3) := by decide +kernel
theorem dX4_isFive_16 : decode cX4_isFive 16 = .ok (.ifCond .eq 20, 3) := by decide +kernel
theorem dX4_isFive_19 : decode cX4_isFive 19 = .ok (.aload_n 0, 1) := by decide +kernel
theorem dX4_isFive_20 : decode cX4_isFive 20 = .ok (.iconst 2, 1) := by decide +kernel
theorem dX4_isFive_21 : decode cX4_isFive 21 = .ok (.iload_n 3, 1) := by decide +kernel
theorem dX4_isFive_22 : decode cX4_isFive 22 = .ok (.iload 4, 2) := by decide +kernel
theorem dX4_isFive_24 : decode cX4_isFive 24 = .ok (.iload 5, 2) := by decide +kernel
theorem dX4_isFive_26 : decode cX4_isFive 26 = .ok (.invokevirtual 224, 3) := by decide +kernel
theorem dX4_isFive_29 : decode cX4_isFive 29 = .ok (.ifCond .eq 7, 3) := by decide +kernel
theorem dX4_isFive_32 : decode cX4_isFive 32 = .ok (.iconst 1, 1) := by decide +kernel
theorem dX4_isFive_33 : decode cX4_isFive 33 = .ok (.goto 4, 3) := by decide +kernel
theorem dX4_isFive_36 : decode cX4_isFive 36 = .ok (.iconst 0, 1) := by decide +kernel
theorem dX4_isFive_37 : decode cX4_isFive 37 = .ok (.ireturn, 1) := by decide +kernel
theorem dX4_isSix_0 : decode cX4_isSix 0 = .ok (.aload_n 0, 1) := by decide +kernel
theorem dX4_isSix_1 : decode cX4_isSix 1 = .ok (.bipush 6, 2) := by decide +kernel
theorem dX4_isSix_3 : decode cX4_isSix 3 = .ok (.invokevirtual 221, 3) := by decide +kernel
theorem dX4_isSix_6 : decode cX4_isSix 6 = .ok (.ifCond .eq 32, 3) := by decide +kernel
theorem dX4_isSix_9 : decode cX4_isSix 9 = .ok (.aload_n 0, 1) := by decide +kernel
theorem dX4_isSix_10 : decode cX4_isSix 10 = .ok (.iconst 0, 1) := by decide +kernel
theorem dX4_isSix_11 : decode cX4_isSix 11 = .ok (.iload_n 1, 1) := by decide +kernel
theorem dX4_isSix_12 : decode cX4_isSix 12 = .ok (.iload_n 2, 1) := by decide +kernel
theorem dX4_isSix_13 : decode cX4_isSix 13 = .ok (.iload_n 3, 1) := by decide +kernel
theorem dX4_isSix_14 : decode cX4_isSix 14 = .ok (.invokevirtual 224, 3) := by decide +kernel
theorem dX4_isSix_17 : decode cX4_isSix 17 = .ok (.ifCond .eq 21, 3) := by decide +kernel
theorem dX4_isSix_20 : decode cX4_isSix 20 = .ok (.aload_n 0, 1) := by decide +kernel
theorem dX4_isSix_21 : decode cX4_isSix 21 = .ok (.iconst 3, 1) := by decide +kernel
theorem dX4_isSix_22 : decode cX4_isSix 22 = .ok (.iload 4, 2) := by decide +kernel
theorem dX4_isSix_24 : decode cX4_isSix 24 = .ok (.iload 5, 2) := by decide +kernel
theorem dX4_isSix_26 : decode cX4_isSix 26 = .ok (.iload 6, 2) := by decide +kernel
theorem dX4_isSix_28 : decode cX4_isSix 28 = .ok (.invokevirtual 224, 3) := by decide +kernel
theorem dX4_isSix_31 : decode cX4_isSix 31 = .ok (.ifCond .eq 7, 3) := by decide +kernel
theorem dX4_isSix_34 : decode cX4_isSix 34 = .ok (.iconst 1, 1) := by decide +kernel
theorem dX4_isSix_35 : decode cX4_isSix 35 = .ok (.goto 4, 3) := by decide +kernel
theorem dX4_isSix_38 : decode cX4_isSix 38 = .ok (.iconst 0, 1) := by decide +kernel
theorem dX4_isSix_39 : decode cX4_isSix 39 = .ok (.ireturn, 1) := by decide +kernel
theorem dX4_isNumber_0 : decode cX4_isNumber 0 = .ok (.aload_n 0, 1) := by decide +kernel
theorem dX4_isNumber_1 : decode cX4_isNumber 1 = .ok (.getfield 212, 3) := by decide +kernel
theorem dX4_isNumber_4 : decode cX4_isNumber 4 = .ok (.iconst 2, 1) := by decide +kernel
theorem dX4_isNumber_5 : decode cX4_isNumber 5 = .ok (.if_icmp .ne 18, 3) := by decide +kernel
theorem dX4_isNumber_8 : decode cX4_isNumber 8 = .ok (.aload_n 0, 1) := by decide +kernel
theorem dX4_isNumber_9 : decode cX4_isNumber 9 = .ok (.getfield 215, 3) := by decide +kernel
theorem dX4_isNumber_12 : decode cX4_isNumber 12 = .ok (.i2l, 1) := by decide +kernel
theorem dX4_isNumber_13 : decode cX4_isNumber 13 = .ok (.iload_n 1, 1) := by decide +kernel
theorem dX4_isNumber_14 : decode cX4_isNumber 14 = .ok (.i2l, 1) := by decide +kernel
theorem dX4_isNumber_15 : decode cX4_isNumber 15 = .ok (.iload_n 2, 1) := by decide +kernel
theorem dX4_isNumber_16 : decode cX4_isNumber 16 = .ok (.i2l, 1) := by decide +kernel
theorem dX4_isNumber_17 : decode cX4_isNumber 17 = .ok (.invokestatic 43, 3) := by decide +kernel
theorem dX4_isNumber_20 : decode cX4_isNumber 20 = .ok (.ifCond .ne 10, 3) := by decide +kernel
theorem dX4_isNumber_23 : decode cX4_isNumber 23 = .ok (.aload_n 0, 1) := by decide +kernel
theorem dX4_isNumber_24 : decode cX4_isNumber 24 = .ok (.invokevirtual 227, 3) := by decide +kernel
theorem dX4_isNumber_27 : decode cX4_isNumber 27 = .ok (.ifCond .eq 7, 3) := by decide +kernel
theorem dX4_isNumber_30 : decode cX4_isNumber 30 = .ok (.iconst 1, 1) := by decide +kernel
theorem dX4_isNumber_31 : decode cX4_isNumber 31 = .ok (.goto 4, 3) := by decide +kernel
theorem dX4_isNumber_34 : decode cX4_isNumber 34 = .ok (.iconst 0, 1) := by decide +kernel
theorem dX4_isNumber_35 : decode cX4_isNumber 35 = .ok (.ireturn, 1) := by decide +kernel
theorem dX4_kindHere_0 : decode cX4_kindHere 0 = .ok (.aload_n 0, 1) := by decide +kernel
theorem dX4_kindHere_1 : decode cX4_kindHere 1 = .ok (.bipush 119, 2) := by decide +kernel
theorem dX4_kindHere_3 : decode cX4_kindHere 3 = .ok (.bipush 97, 2) := by decide +kernel
theorem dX4_kindHere_5 : decode cX4_kindHere 5 = .ok (.bipush 108, 2) := by decide +kernel
theorem dX4_kindHere_7 : decode cX4_kindHere 7 = .ok (.bipush 107, 2) := by decide +kernel
theorem dX4_kindHere_9 : decode cX4_kindHere 9 = .ok (.bipush 101, 2) := by decide +kernel
theorem dX4_kindHere_11 : decode cX4_kindHere 11 = .ok (.bipush 114, 2) := by decide +kernel
theorem dX4_kindHere_13 : decode cX4_kindHere 13 = .ok (.invokevirtual 231, 3) := by decide +kernel
theorem dX4_kindHere_16 : decode cX4_kindHere 16 = .ok (.ifCond .eq 5, 3) := by decide +kernel
theorem dX4_kindHere_19 : decode cX4_kindHere 19 = .ok (.iconst 0, 1) := by decide +kernel
theorem dX4_kindHere_20 : decode cX4_kindHere 20 = .ok (.ireturn, 1) := by decide +kernel
theorem dX4_kindHere_21 : decode cX4_kindHere 21 = .ok (.aload_n 0, 1) := by decide +kernel
theorem dX4_kindHere_22 : decode cX4_kindHere 22 = .ok (.bipush 7, 2) := by decide +kernel
theorem dX4_kindHere_24 : decode cX4_kindHere 24 = .ok (.invokevirtual 221, 3) := by decide +kernel
theorem dX4_kindHere_27 : decode cX4_kindHere 27 = .ok (.ifCond .eq 47, 3) := by decide +kernel
theorem dX4_kindHere_30 : decode cX4_kindHere 30 = .ok (.aload_n 0, 1) := by decide +kernel
theorem dX4_kindHere_31 : decode cX4_kindHere 31 = .ok (.iconst 0, 1) := by decide +kernel
theorem dX4_kindHere_32 : decode cX4_kindHere 32 = .ok (.bipush 112, 2) := by decide +kernel
theorem dX4_kindHere_34 : decode cX4_kindHere 34 = .ok (.bipush 111, 2) := by decide +kernel
theorem dX4_kindHere_36 : decode cX4_kindHere 36 = .ok (.bipush 115, 2) := by decide +kernel
theorem dX4_kindHere_38 : decode cX4_kindHere 38 = .ok (.invokevirtual 224, 3) := by decide +kernel
theorem dX4_kindHere_41 : decode cX4_kindHere 41 = .ok (.ifCond .eq 33, 3) := by decide +kernel
theorem dX4_kindHere_44 : decode cX4_kindHere 44 = .ok (.aload_n 0, 1) := by decide +kernel
theorem dX4_kindHere_45 : decode cX4_kindHere 45 = .ok (.iconst 3, 1) := by decide +kernel
theorem dX4_kindHere_46 : decode cX4_kindHere 46 = .ok (.bipush 116, 2) := by decide +kernel
theorem dX4_kindHere_48 : decode cX4_kindHere 48 = .ok (.bipush 109, 2) := by decide +kernel
theorem dX4_kindHere_50 : decode cX4_kindHere 50 = .ok (.bipush 97, 2) := by decide +kernel
theorem dX4_kindHere_52 : decode cX4_kindHere 52 = .ok (.invokevirtual 224, 3) := by decide +kernel
theorem dX4_kindHere_55 : decode cX4_kindHere 55 = .ok (.ifCond .eq 19, 3) := by decide +kernel
theorem dX4_kindHere_58 : decode cX4_kindHere 58 = .ok (.aload_n 0, 1) := by decide +kernel
theorem dX4_kindHere_59 : decode cX4_kindHere 59 = .ok (.iconst 4, 1) := by decide +kernel
theorem dX4_kindHere_60 : decode cX4_kindHere 60 = .ok (.bipush 109, 2) := by decide +kernel
theorem dX4_kindHere_62 : decode cX4_kindHere 62 = .ok (.bipush 97, 2) := by decide +kernel
theorem dX4_kindHere_64 : decode cX4_kindHere 64 = .ok (.bipush 110, 2) := by decide +kernel
theorem dX4_kindHere_66 : decode cX4_kindHere 66 = .ok (.invokevirtual 224, 3) := by decide +kernel
theorem dX4_kindHere_69 : decode cX4_kindHere 69 = .ok (.ifCond .eq 5, 3) := by decide +kernel
theorem dX4_kindHere_72 : decode cX4_kindHere 72 = .ok (.iconst 1, 1) := by decide +kernel
theorem dX4_kindHere_73 : decode cX4_kindHere 73 = .ok (.ireturn, 1) := by decide +kernel
theorem dX4_kindHere_74 : decode cX4_kindHere 74 = .ok (.aload_n 0, 1) := by decide +kernel
theorem dX4_kindHere_75 : decode cX4_kindHere 75 = .ok (.iconst 3, 1) := by decide +kernel
theorem dX4_kindHere_76 : decode cX4_kindHere 76 = .ok (.invokevirtual 221, 3) := by decide +kernel
theorem dX4_kindHere_79 : decode cX4_kindHere 79 = .ok (.ifCond .eq 19, 3) := by decide +kernel
theorem dX4_kindHere_82 : decode cX4_kindHere 82 = .ok (.aload_n 0, 1) := by decide +kernel
theorem dX4_kindHere_83 : decode cX4_kindHere 83 = .ok (.iconst 0, 1) := by decide +kernel
theorem dX4_kindHere_84 : decode cX4_kindHere 84 = .ok (.bipush 100, 2) := by decide +kernel
theorem dX4_kindHere_86 : decode cX4_kindHere 86 = .ok (.bipush 111, 2) := by decide +kernel
theorem dX4_kindHere_88 : decode cX4_kindHere 88 = .ok (.bipush 103, 2) := by decide +kernel
theorem dX4_kindHere_90 : decode cX4_kindHere 90 = .ok (.invokevirtual 224, 3) := by decide +kernel
theorem dX4_kindHere_93 : decode cX4_kindHere 93 = .ok (.ifCond .eq 5, 3) := by decide +kernel
theorem dX4_kindHere_96 : decode cX4_kindHere 96 = .ok (.iconst 2, 1) := by decide +kernel
theorem dX4_kindHere_97 : decode cX4_kindHere 97 = .ok (.ireturn, 1) := by decide +kernel
theorem dX4_kindHere_98 : decode cX4_kindHere 98 = .ok (.aload_n 0, 1) := by decide +kernel
theorem dX4_kindHere_99 : decode cX4_kindHere 99 = .ok (.bipush 99, 2) := by decide +kernel
theorem dX4_kindHere_101 : decode cX4_kindHere 101 = .ok (.bipush 104, 2) := by decide +kernel
theorem dX4_kindHere_103 : decode cX4_kindHere 103 = .ok (.bipush 105, 2) := by decide +kernel
theorem dX4_kindHere_105 : decode cX4_kindHere 105 = .ok (.bipush 108, 2) := by decide +kernel
theorem dX4_kindHere_107 : decode cX4_kindHere 107 = .ok (.bipush 100, 2) := by decide +kernel
theorem dX4_kindHere_109 : decode cX4_kindHere 109 = .ok (.invokevirtual 235, 3) := by decide +kernel
theorem dX4_kindHere_112 : decode cX4_kindHere 112 = .ok (.ifCond .eq 5, 3) := by decide +kernel
theorem dX4_kindHere_115 : decode cX4_kindHere 115 = .ok (.iconst 3, 1) := by decide +kernel
theorem dX4_kindHere_116 : decode cX4_kindHere 116 = .ok (.ireturn, 1) := by decide +kernel
theorem dX4_kindHere_117 : decode cX4_kindHere 117 = .ok (.aload_n 0, 1) := by decide +kernel
theorem dX4_kindHere_118 : decode cX4_kindHere 118 = .ok (.bipush 8, 2) := by decide +kernel
theorem dX4_kindHere_120 : decode cX4_kindHere 120 = .ok (.invokevirtual 221, 3) := by decide +kernel
theorem dX4_kindHere_123 : decode cX4_kindHere 123 = .ok (.ifCond .eq 47, 3) := by decide +kernel
theorem dX4_kindHere_126 : decode cX4_kindHere 126 = .ok (.aload_n 0, 1) := by decide +kernel
theorem dX4_kindHere_127 : decode cX4_kindHere 127 = .ok (.iconst 0, 1) := by decide +kernel
theorem dX4_kindHere_128 : decode cX4_kindHere 128 = .ok (.bipush 115, 2) := by decide +kernel
theorem dX4_kindHere_130 : decode cX4_kindHere 130 = .ok (.bipush 116, 2) := by decide +kernel
theorem dX4_kindHere_132 : decode cX4_kindHere 132 = .ok (.bipush 114, 2) := by decide +kernel
theorem dX4_kindHere_134 : decode cX4_kindHere 134 = .ok (.invokevirtual 224, 3) := by decide +kernel
theorem dX4_kindHere_137 : decode cX4_kindHere 137 = .ok (.ifCond .eq 33, 3) := by decide +kernel
theorem dX4_kindHere_140 : decode cX4_kindHere 140 = .ok (.aload_n 0, 1) := by decide +kernel
theorem dX4_kindHere_141 : decode cX4_kindHere 141 = .ok (.iconst 3, 1) := by decide +kernel
theorem dX4_kindHere_142 : decode cX4_kindHere 142 = .ok (.bipush 97, 2) := by decide +kernel
theorem dX4_kindHere_144 : decode cX4_kindHere 144 = .ok (.bipush 110, 2) := by decide +kernel
theorem dX4_kindHere_146 : decode cX4_kindHere 146 = .ok (.bipush 103, 2) := by decide +kernel
theorem dX4_kindHere_148 : decode cX4_kindHere 148 = .ok (.invokevirtual 224, 3) := by decide +kernel
theorem dX4_kindHere_151 : decode cX4_kindHere 151 = .ok (.ifCond .eq 19, 3) := by decide +kernel
theorem dX4_kindHere_154 : decode cX4_kindHere 154 = .ok (.aload_n 0, 1) := by decide +kernel
theorem dX4_kindHere_155 : decode cX4_kindHere 155 = .ok (.iconst 5, 1) := by decide +kernel
theorem dX4_kindHere_156 : decode cX4_kindHere 156 = .ok (.bipush 103, 2) := by decide +kernel
theorem dX4_kindHere_158 : decode cX4_kindHere 158 = .ok (.bipush 101, 2) := by decide +kernel
theorem dX4_kindHere_160 : decode cX4_kindHere 160 = .ok (.bipush 114, 2) := by decide +kernel
theorem dX4_kindHere_162 : decode cX4_kindHere 162 = .ok (.invokevirtual 224, 3) := by decide +kernel
theorem dX4_kindHere_165 : decode cX4_kindHere 165 = .ok (.ifCond .eq 5, 3) := by decide +kernel
theorem dX4_kindHere_168 : decode cX4_kindHere 168 = .ok (.iconst 4, 1) := by decide +kernel
theorem dX4_kindHere_169 : decode cX4_kindHere 169 = .ok (.ireturn, 1) := by decide +kernel
theorem dX4_kindHere_170 : decode cX4_kindHere 170 = .ok (.aload_n 0, 1) := by decide +kernel
theorem dX4_kindHere_171 : decode cX4_kindHere 171 = .ok (.bipush 109, 2) := by decide +kernel
theorem dX4_kindHere_173 : decode cX4_kindHere 173 = .ok (.bipush 101, 2) := by decide +kernel
theorem dX4_kindHere_175 : decode cX4_kindHere 175 = .ok (.bipush 97, 2) := by decide +kernel
theorem dX4_kindHere_177 : decode cX4_kindHere 177 = .ok (.bipush 110, 2) := by decide +kernel
theorem dX4_kindHere_179 : decode cX4_kindHere 179 = .ok (.invokevirtual 239, 3) := by decide +kernel
theorem dX4_kindHere_182 : decode cX4_kindHere 182 = .ok (.ifCond .eq 5, 3) := by decide +kernel
theorem dX4_kindHere_185 : decode cX4_kindHere 185 = .ok (.iconst 5, 1) := by decide +kernel
theorem dX4_kindHere_186 : decode cX4_kindHere 186 = .ok (.ireturn, 1) := by decide +kernel
theorem dX4_kindHere_187 : decode cX4_kindHere 187 = .ok (.aload_n 0, 1) := by decide +kernel
theorem dX4_kindHere_188 : decode cX4_kindHere 188 = .ok (.bipush 8, 2) := by decide +kernel
theorem dX4_kindHere_190 : decode cX4_kindHere 190 = .ok (.invokevirtual 221, 3) := by decide +kernel
theorem dX4_kindHere_193 : decode cX4_kindHere 193 = .ok (.ifCond .eq 50, 3) := by decide +kernel
theorem dX4_kindHere_196 : decode cX4_kindHere 196 = .ok (.aload_n 0, 1) := by decide +kernel
theorem dX4_kindHere_197 : decode cX4_kindHere 197 = .ok (.iconst 0, 1) := by decide +kernel
theorem dX4_kindHere_198 : decode cX4_kindHere 198 = .ok (.bipush 100, 2) := by decide +kernel
theorem dX4_kindHere_200 : decode cX4_kindHere 200 = .ok (.bipush 97, 2) := by decide +kernel
theorem dX4_kindHere_202 : decode cX4_kindHere 202 = .ok (.bipush 117, 2) := by decide +kernel
theorem dX4_kindHere_204 : decode cX4_kindHere 204 = .ok (.invokevirtual 224, 3) := by decide +kernel
theorem dX4_kindHere_207 : decode cX4_kindHere 207 = .ok (.ifCond .eq 36, 3) := by decide +kernel
theorem dX4_kindHere_210 : decode cX4_kindHere 210 = .ok (.aload_n 0, 1) := by decide +kernel
theorem dX4_kindHere_211 : decode cX4_kindHere 211 = .ok (.iconst 3, 1) := by decide +kernel
theorem dX4_kindHere_212 : decode cX4_kindHere 212 = .ok (.bipush 103, 2) := by decide +kernel
theorem dX4_kindHere_214 : decode cX4_kindHere 214 = .ok (.bipush 104, 2) := by decide +kernel
theorem dX4_kindHere_216 : decode cX4_kindHere 216 = .ok (.bipush 116, 2) := by decide +kernel
theorem dX4_kindHere_218 : decode cX4_kindHere 218 = .ok (.invokevirtual 224, 3) := by decide +kernel
theorem dX4_kindHere_221 : decode cX4_kindHere 221 = .ok (.ifCond .eq 22, 3) := by decide +kernel
theorem dX4_kindHere_224 : decode cX4_kindHere 224 = .ok (.aload_n 0, 1) := by decide +kernel
theorem dX4_kindHere_225 : decode cX4_kindHere 225 = .ok (.iconst 5, 1) := by decide +kernel
theorem dX4_kindHere_226 : decode cX4_kindHere 226 = .ok (.bipush 116, 2) := by decide +kernel
theorem dX4_kindHere_228 : decode cX4_kindHere 228 = .ok (.bipush 101, 2) := by decide +kernel
theorem dX4_kindHere_230 : decode cX4_kindHere 230 = .ok (.bipush 114, 2) := by decide +kernel
theorem dX4_kindHere_232 : decode cX4_kindHere 232 = .ok (.invokevirtual 224, 3) := by decide +kernel
theorem dX4_kindHere_235 : decode cX4_kindHere 235 = .ok (.ifCond .eq 8, 3) := by decide +kernel
theorem dX4_kindHere_238 : decode cX4_kindHere 238 = .ok (.bipush 6, 2) := by decide +kernel
theorem dX4_kindHere_240 : decode cX4_kindHere 240 = .ok (.goto 4, 3) := by decide +kernel
theorem dX4_kindHere_243 : decode cX4_kindHere 243 = .ok (.iconst (-1), 1) := by decide +kernel
theorem dX4_kindHere_244 : decode cX4_kindHere 244 = .ok (.ireturn, 1) := by decide +kernel
theorem dX4_standHere_0 : decode cX4_standHere 0 = .ok (.aload_n 0, 1) := by decide +kernel
theorem dX4_standHere_1 : decode cX4_standHere 1 = .ok (.bipush 115, 2) := by decide +kernel
theorem dX4_standHere_3 : decode cX4_standHere 3 = .ok (.bipush 104, 2) := by decide +kernel
theorem dX4_standHere_5 : decode cX4_standHere 5 = .ok (.bipush 117, 2) := by decide +kernel
theorem dX4_standHere_7 : decode cX4_standHere 7 = .ok (.bipush 116, 2) := by decide +kernel
theorem dX4_standHere_9 : decode cX4_standHere 9 = .ok (.invokevirtual 239, 3) := by decide +kernel
theorem dX4_standHere_12 : decode cX4_standHere 12 = .ok (.ifCond .eq 5, 3) := by decide +kernel
theorem dX4_standHere_15 : decode cX4_standHere 15 = .ok (.iconst 0, 1) := by decide +kernel
theorem dX4_standHere_16 : decode cX4_standHere 16 = .ok (.ireturn, 1) := by decide +kernel
theorem dX4_standHere_17 : decode cX4_standHere 17 = .ok (.aload_n 0, 1) := by decide +kernel
theorem dX4_standHere_18 : decode cX4_standHere 18 = .ok (.bipush 97, 2) := by decide +kernel
theorem dX4_standHere_20 : decode cX4_standHere 20 = .ok (.bipush 106, 2) := by decide +kernel
theorem dX4_standHere_22 : decode cX4_standHere 22 = .ok (.bipush 97, 2) := by decide +kernel
theorem dX4_standHere_24 : decode cX4_standHere 24 = .ok (.bipush 114, 2) := by decide +kernel
theorem dX4_standHere_26 : decode cX4_standHere 26 = .ok (.invokevirtual 239, 3) := by decide +kernel
theorem dX4_standHere_29 : decode cX4_standHere 29 = .ok (.ifCond .eq 5, 3) := by decide +kernel
theorem dX4_standHere_32 : decode cX4_standHere 32 = .ok (.iconst 1, 1) := by decide +kernel
theorem dX4_standHere_33 : decode cX4_standHere 33 = .ok (.ireturn, 1) := by decide +kernel
theorem dX4_standHere_34 : decode cX4_standHere 34 = .ok (.aload_n 0, 1) := by decide +kernel
theorem dX4_standHere_35 : decode cX4_standHere 35 = .ok (.bipush 111, 2) := by decide +kernel
theorem dX4_standHere_37 : decode cX4_standHere 37 = .ok (.bipush 112, 2) := by decide +kernel
theorem dX4_standHere_39 : decode cX4_standHere 39 = .ok (.bipush 101, 2) := by decide +kernel
theorem dX4_standHere_41 : decode cX4_standHere 41 = .ok (.bipush 110, 2) := by decide +kernel
theorem dX4_standHere_43 : decode cX4_standHere 43 = .ok (.invokevirtual 239, 3) := by decide +kernel
theorem dX4_standHere_46 : decode cX4_standHere 46 = .ok (.ifCond .eq 5, 3) := by decide +kernel
theorem dX4_standHere_49 : decode cX4_standHere 49 = .ok (.iconst 2, 1) := by decide +kernel
theorem dX4_standHere_50 : decode cX4_standHere 50 = .ok (.ireturn, 1) := by decide +kernel
theorem dX4_standHere_51 : decode cX4_standHere 51 = .ok (.aload_n 0, 1) := by decide +kernel
theorem dX4_standHere_52 : decode cX4_standHere 52 = .ok (.bipush 7, 2) := by decide +kernel
theorem dX4_standHere_54 : decode cX4_standHere 54 = .ok (.invokevirtual 221, 3) := by decide +kernel
theorem dX4_standHere_57 : decode cX4_standHere 57 = .ok (.ifCond .eq 49, 3) := by decide +kernel
theorem dX4_standHere_60 : decode cX4_standHere 60 = .ok (.aload_n 0, 1) := by decide +kernel
theorem dX4_standHere_61 : decode cX4_standHere 61 = .ok (.iconst 0, 1) := by decide +kernel
theorem dX4_standHere_62 : decode cX4_standHere 62 = .ok (.bipush 112, 2) := by decide +kernel
theorem dX4_standHere_64 : decode cX4_standHere 64 = .ok (.bipush 114, 2) := by decide +kernel
theorem dX4_standHere_66 : decode cX4_standHere 66 = .ok (.bipush 111, 2) := by decide +kernel
theorem dX4_standHere_68 : decode cX4_standHere 68 = .ok (.invokevirtual 224, 3) := by decide +kernel
theorem dX4_standHere_71 : decode cX4_standHere 71 = .ok (.ifCond .eq 35, 3) := by decide +kernel
theorem dX4_standHere_74 : decode cX4_standHere 74 = .ok (.aload_n 0, 1) := by decide +kernel
theorem dX4_standHere_75 : decode cX4_standHere 75 = .ok (.iconst 3, 1) := by decide +kernel
theorem dX4_standHere_76 : decode cX4_standHere 76 = .ok (.bipush 112, 2) := by decide +kernel
theorem dX4_standHere_78 : decode cX4_standHere 78 = .ok (.bipush 112, 2) := by decide +kernel
theorem dX4_standHere_80 : decode cX4_standHere 80 = .ok (.bipush 101, 2) := by decide +kernel
theorem dX4_standHere_82 : decode cX4_standHere 82 = .ok (.invokevirtual 224, 3) := by decide +kernel
theorem dX4_standHere_85 : decode cX4_standHere 85 = .ok (.ifCond .eq 21, 3) := by decide +kernel
theorem dX4_standHere_88 : decode cX4_standHere 88 = .ok (.aload_n 0, 1) := by decide +kernel
theorem dX4_standHere_89 : decode cX4_standHere 89 = .ok (.iconst 4, 1) := by decide +kernel
theorem dX4_standHere_90 : decode cX4_standHere 90 = .ok (.bipush 112, 2) := by decide +kernel
theorem dX4_standHere_92 : decode cX4_standHere 92 = .ok (.bipush 101, 2) := by decide +kernel
theorem dX4_standHere_94 : decode cX4_standHere 94 = .ok (.bipush 100, 2) := by decide +kernel
theorem dX4_standHere_96 : decode cX4_standHere 96 = .ok (.invokevirtual 224, 3) := by decide +kernel
theorem dX4_standHere_99 : decode cX4_standHere 99 = .ok (.ifCond .eq 7, 3) := by decide +kernel
theorem dX4_standHere_102 : decode cX4_standHere 102 = .ok (.iconst 3, 1) := by decide +kernel
theorem dX4_standHere_103 : decode cX4_standHere 103 = .ok (.goto 4, 3) := by decide +kernel
theorem dX4_standHere_106 : decode cX4_standHere 106 = .ok (.iconst (-1), 1) := by decide +kernel
theorem dX4_standHere_107 : decode cX4_standHere 107 = .ok (.ireturn, 1) := by decide +kernel
theorem dX4_walkerHere_0 : decode cX4_walkerHere 0 = .ok (.aload_n 0, 1) := by decide +kernel
theorem dX4_walkerHere_1 : decode cX4_walkerHere 1 = .ok (.getfield 7, 3) := by decide +kernel
theorem dX4_walkerHere_4 : decode cX4_walkerHere 4 = .ok (.iconst 0, 1) := by decide +kernel
theorem dX4_walkerHere_5 : decode cX4_walkerHere 5 = .ok (.iaload, 1) := by decide +kernel
theorem dX4_walkerHere_6 : decode cX4_walkerHere 6 = .ok (.bipush 8, 2) := by decide +kernel
theorem dX4_walkerHere_8 : decode cX4_walkerHere 8 = .ok (.if_icmp .ne 8, 3) := by decide +kernel
theorem dX4_walkerHere_11 : decode cX4_walkerHere 11 = .ok (.aload_n 0, 1) := by decide +kernel
theorem dX4_walkerHere_12 : decode cX4_walkerHere 12 = .ok (.invokevirtual 227, 3) := by decide +kernel
theorem dX4_walkerHere_15 : decode cX4_walkerHere 15 = .ok (.ireturn, 1) := by decide +kernel
theorem dX4_walkerHere_16 : decode cX4_walkerHere 16 = .ok (.aload_n 0, 1) := by decide +kernel
theorem dX4_walkerHere_17 : decode cX4_walkerHere 17 = .ok (.iload_n 1, 1) := by decide +kernel
theorem dX4_walkerHere_18 : decode cX4_walkerHere 18 = .ok (.iconst 0, 1) := by decide +kernel
theorem dX4_walkerHere_19 : decode cX4_walkerHere 19 = .ok (.invokevirtual 82, 3) := by decide +kernel
theorem dX4_walkerHere_22 : decode cX4_walkerHere 22 = .ok (.aload_n 0, 1) := by decide +kernel
theorem dX4_walkerHere_23 : decode cX4_walkerHere 23 = .ok (.getfield 7, 3) := by decide +kernel
theorem dX4_walkerHere_26 : decode cX4_walkerHere 26 = .ok (.iconst 0, 1) := by decide +kernel
theorem dX4_walkerHere_27 : decode cX4_walkerHere 27 = .ok (.iaload, 1) := by decide +kernel
theorem dX4_walkerHere_28 : decode cX4_walkerHere 28 = .ok (.iconst 1, 1) := by decide +kernel
theorem dX4_walkerHere_29 : decode cX4_walkerHere 29 = .ok (.isub, 1) := by decide +kernel
theorem dX4_walkerHere_30 : decode cX4_walkerHere 30 = .ok (.istore_n 2, 1) := by decide +kernel
theorem dX4_walkerHere_31 : decode cX4_walkerHere 31 = .ok (.aload_n 0, 1) := by decide +kernel
theorem dX4_walkerHere_32 : decode cX4_walkerHere 32 = .ok (.invokevirtual 242, 3) := by decide +kernel
theorem dX4_walkerHere_35 : decode cX4_walkerHere 35 = .ok (.aload_n 0, 1) := by decide +kernel
theorem dX4_walkerHere_36 : decode cX4_walkerHere 36 = .ok (.iconst 2, 1) := by decide +kernel
theorem dX4_walkerHere_37 : decode cX4_walkerHere 37 = .ok (.invokevirtual 221, 3) := by decide +kernel
theorem dX4_walkerHere_40 : decode cX4_walkerHere 40 = .ok (.ifCond .eq 65, 3) := by decide +kernel
theorem dX4_walkerHere_43 : decode cX4_walkerHere 43 = .ok (.aload_n 0, 1) := by decide +kernel
theorem dX4_walkerHere_44 : decode cX4_walkerHere 44 = .ok (.aload_n 0, 1) := by decide +kernel
theorem dX4_walkerHere_45 : decode cX4_walkerHere 45 = .ok (.getfield 200, 3) := by decide +kernel
theorem dX4_walkerHere_48 : decode cX4_walkerHere 48 = .ok (.invokevirtual 203, 3) := by decide +kernel
theorem dX4_walkerHere_51 : decode cX4_walkerHere 51 = .ok (.bipush 105, 2) := by decide +kernel
theorem dX4_walkerHere_53 : decode cX4_walkerHere 53 = .ok (.if_icmp .ne 52, 3) := by decide +kernel
theorem dX4_walkerHere_56 : decode cX4_walkerHere 56 = .ok (.aload_n 0, 1) := by decide +kernel
theorem dX4_walkerHere_57 : decode cX4_walkerHere 57 = .ok (.aload_n 0, 1) := by decide +kernel
theorem dX4_walkerHere_58 : decode cX4_walkerHere 58 = .ok (.getfield 200, 3) := by decide +kernel
theorem dX4_walkerHere_61 : decode cX4_walkerHere 61 = .ok (.iconst 1, 1) := by decide +kernel
theorem dX4_walkerHere_62 : decode cX4_walkerHere 62 = .ok (.iadd, 1) := by decide +kernel
theorem dX4_walkerHere_63 : decode cX4_walkerHere 63 = .ok (.invokevirtual 203, 3) := by decide +kernel
theorem dX4_walkerHere_66 : decode cX4_walkerHere 66 = .ok (.bipush 110, 2) := by decide +kernel
theorem dX4_walkerHere_68 : decode cX4_walkerHere 68 = .ok (.if_icmp .ne 37, 3) := by decide +kernel
theorem dX4_walkerHere_71 : decode cX4_walkerHere 71 = .ok (.aload_n 0, 1) := by decide +kernel
theorem dX4_walkerHere_72 : decode cX4_walkerHere 72 = .ok (.invokevirtual 242, 3) := by decide +kernel
theorem dX4_walkerHere_75 : decode cX4_walkerHere 75 = .ok (.aload_n 0, 1) := by decide +kernel
theorem dX4_walkerHere_76 : decode cX4_walkerHere 76 = .ok (.iconst 0, 1) := by decide +kernel
theorem dX4_walkerHere_77 : decode cX4_walkerHere 77 = .ok (.bipush 8, 2) := by decide +kernel
theorem dX4_walkerHere_79 : decode cX4_walkerHere 79 = .ok (.invokevirtual 245, 3) := by decide +kernel
theorem dX4_walkerHere_82 : decode cX4_walkerHere 82 = .ok (.ifCond .ne 5, 3) := by decide +kernel
theorem dX4_walkerHere_85 : decode cX4_walkerHere 85 = .ok (.iconst 0, 1) := by decide +kernel
theorem dX4_walkerHere_86 : decode cX4_walkerHere 86 = .ok (.ireturn, 1) := by decide +kernel
theorem dX4_walkerHere_87 : decode cX4_walkerHere 87 = .ok (.aload_n 0, 1) := by decide +kernel
theorem dX4_walkerHere_88 : decode cX4_walkerHere 88 = .ok (.getfield 7, 3) := by decide +kernel
theorem dX4_walkerHere_91 : decode cX4_walkerHere 91 = .ok (.iload_n 2, 1) := by decide +kernel
theorem dX4_walkerHere_92 : decode cX4_walkerHere 92 = .ok (.iconst 1, 1) := by decide +kernel
theorem dX4_walkerHere_93 : decode cX4_walkerHere 93 = .ok (.invokestatic 76, 3) := by decide +kernel
theorem dX4_walkerHere_96 : decode cX4_walkerHere 96 = .ok (.aload_n 0, 1) := by decide +kernel
theorem dX4_walkerHere_97 : decode cX4_walkerHere 97 = .ok (.getfield 215, 3) := by decide +kernel
theorem dX4_walkerHere_100 : decode cX4_walkerHere 100 = .ok (.iastore, 1) := by decide +kernel
theorem dX4_walkerHere_101 : decode cX4_walkerHere 101 = .ok (.aload_n 0, 1) := by decide +kernel
theorem dX4_walkerHere_102 : decode cX4_walkerHere 102 = .ok (.invokevirtual 242, 3) := by decide +kernel
theorem dX4_walkerHere_105 : decode cX4_walkerHere 105 = .ok (.aload_n 0, 1) := by decide +kernel
theorem dX4_walkerHere_106 : decode cX4_walkerHere 106 = .ok (.bipush 98, 2) := by decide +kernel
theorem dX4_walkerHere_108 : decode cX4_walkerHere 108 = .ok (.bipush 97, 2) := by decide +kernel
theorem dX4_walkerHere_110 : decode cX4_walkerHere 110 = .ok (.bipush 99, 2) := by decide +kernel
theorem dX4_walkerHere_112 : decode cX4_walkerHere 112 = .ok (.bipush 107, 2) := by decide +kernel
theorem dX4_walkerHere_114 : decode cX4_walkerHere 114 = .ok (.invokevirtual 239, 3) := by decide +kernel
theorem dX4_walkerHere_117 : decode cX4_walkerHere 117 = .ok (.ifCond .eq 18, 3) := by decide +kernel
theorem dX4_walkerHere_120 : decode cX4_walkerHere 120 = .ok (.aload_n 0, 1) := by decide +kernel
theorem dX4_walkerHere_121 : decode cX4_walkerHere 121 = .ok (.getfield 7, 3) := by decide +kernel
theorem dX4_walkerHere_124 : decode cX4_walkerHere 124 = .ok (.iload_n 2, 1) := by decide +kernel
theorem dX4_walkerHere_125 : decode cX4_walkerHere 125 = .ok (.iconst 2, 1) := by decide +kernel
theorem dX4_walkerHere_126 : decode cX4_walkerHere 126 = .ok (.invokestatic 76, 3) := by decide +kernel
theorem dX4_walkerHere_129 : decode cX4_walkerHere 129 = .ok (.iconst 1, 1) := by decide +kernel
theorem dX4_walkerHere_130 : decode cX4_walkerHere 130 = .ok (.iastore, 1) := by decide +kernel
theorem dX4_walkerHere_131 : decode cX4_walkerHere 131 = .ok (.aload_n 0, 1) := by decide +kernel
theorem dX4_walkerHere_132 : decode cX4_walkerHere 132 = .ok (.invokevirtual 242, 3) := by decide +kernel
theorem dX4_walkerHere_135 : decode cX4_walkerHere 135 = .ok (.aload_n 0, 1) := by decide +kernel
theorem dX4_walkerHere_136 : decode cX4_walkerHere 136 = .ok (.bipush 109, 2) := by decide +kernel
theorem dX4_walkerHere_138 : decode cX4_walkerHere 138 = .ok (.bipush 111, 2) := by decide +kernel
theorem dX4_walkerHere_140 : decode cX4_walkerHere 140 = .ok (.bipush 111, 2) := by decide +kernel
theorem dX4_walkerHere_142 : decode cX4_walkerHere 142 = .ok (.bipush 100, 2) := by decide +kernel
theorem dX4_walkerHere_144 : decode cX4_walkerHere 144 = .ok (.invokevirtual 239, 3) := by decide +kernel
theorem dX4_walkerHere_147 : decode cX4_walkerHere 147 = .ok (.ifCond .eq 37, 3) := by decide +kernel
theorem dX4_walkerHere_150 : decode cX4_walkerHere 150 = .ok (.aload_n 0, 1) := by decide +kernel
theorem dX4_walkerHere_151 : decode cX4_walkerHere 151 = .ok (.invokevirtual 242, 3) := by decide +kernel
theorem dX4_walkerHere_154 : decode cX4_walkerHere 154 = .ok (.aload_n 0, 1) := by decide +kernel
theorem dX4_walkerHere_155 : decode cX4_walkerHere 155 = .ok (.iconst 0, 1) := by decide +kernel
theorem dX4_walkerHere_156 : decode cX4_walkerHere 156 = .ok (.bipush 9, 2) := by decide +kernel
theorem dX4_walkerHere_158 : decode cX4_walkerHere 158 = .ok (.invokevirtual 245, 3) := by decide +kernel
theorem dX4_walkerHere_161 : decode cX4_walkerHere 161 = .ok (.ifCond .ne 5, 3) := by decide +kernel
theorem dX4_walkerHere_164 : decode cX4_walkerHere 164 = .ok (.iconst 0, 1) := by decide +kernel
theorem dX4_walkerHere_165 : decode cX4_walkerHere 165 = .ok (.ireturn, 1) := by decide +kernel
theorem dX4_walkerHere_166 : decode cX4_walkerHere 166 = .ok (.aload_n 0, 1) := by decide +kernel
theorem dX4_walkerHere_167 : decode cX4_walkerHere 167 = .ok (.getfield 7, 3) := by decide +kernel
theorem dX4_walkerHere_170 : decode cX4_walkerHere 170 = .ok (.iload_n 2, 1) := by decide +kernel
theorem dX4_walkerHere_171 : decode cX4_walkerHere 171 = .ok (.iconst 3, 1) := by decide +kernel
theorem dX4_walkerHere_172 : decode cX4_walkerHere 172 = .ok (.invokestatic 76, 3) := by decide +kernel
theorem dX4_walkerHere_175 : decode cX4_walkerHere 175 = .ok (.aload_n 0, 1) := by decide +kernel
theorem dX4_walkerHere_176 : decode cX4_walkerHere 176 = .ok (.getfield 215, 3) := by decide +kernel
theorem dX4_walkerHere_179 : decode cX4_walkerHere 179 = .ok (.iastore, 1) := by decide +kernel
theorem dX4_walkerHere_180 : decode cX4_walkerHere 180 = .ok (.aload_n 0, 1) := by decide +kernel
theorem dX4_walkerHere_181 : decode cX4_walkerHere 181 = .ok (.invokevirtual 242, 3) := by decide +kernel
theorem dX4_walkerHere_184 : decode cX4_walkerHere 184 = .ok (.iconst 1, 1) := by decide +kernel
theorem dX4_walkerHere_185 : decode cX4_walkerHere 185 = .ok (.ireturn, 1) := by decide +kernel
theorem dX4_gateHere_0 : decode cX4_gateHere 0 = .ok (.aload_n 0, 1) := by decide +kernel
theorem dX4_gateHere_1 : decode cX4_gateHere 1 = .ok (.invokevirtual 242, 3) := by decide +kernel
theorem dX4_gateHere_4 : decode cX4_gateHere 4 = .ok (.aload_n 0, 1) := by decide +kernel
theorem dX4_gateHere_5 : decode cX4_gateHere 5 = .ok (.iconst 0, 1) := by decide +kernel
theorem dX4_gateHere_6 : decode cX4_gateHere 6 = .ok (.bipush 7, 2) := by decide +kernel
theorem dX4_gateHere_8 : decode cX4_gateHere 8 = .ok (.invokevirtual 245, 3) := by decide +kernel
theorem dX4_gateHere_11 : decode cX4_gateHere 11 = .ok (.ifCond .ne 5, 3) := by decide +kernel
theorem dX4_gateHere_14 : decode cX4_gateHere 14 = .ok (.iconst 0, 1) := by decide +kernel
theorem dX4_gateHere_15 : decode cX4_gateHere 15 = .ok (.ireturn, 1) := by decide +kernel
theorem dX4_gateHere_16 : decode cX4_gateHere 16 = .ok (.aload_n 0, 1) := by decide +kernel
theorem dX4_gateHere_17 : decode cX4_gateHere 17 = .ok (.getfield 7, 3) := by decide +kernel
theorem dX4_gateHere_20 : decode cX4_gateHere 20 = .ok (.bipush 13, 2) := by decide +kernel
theorem dX4_gateHere_22 : decode cX4_gateHere 22 = .ok (.aload_n 0, 1) := by decide +kernel
theorem dX4_gateHere_23 : decode cX4_gateHere 23 = .ok (.getfield 215, 3) := by decide +kernel
theorem dX4_gateHere_26 : decode cX4_gateHere 26 = .ok (.iadd, 1) := by decide +kernel
theorem dX4_gateHere_27 : decode cX4_gateHere 27 = .ok (.iload_n 1, 1) := by decide +kernel
theorem dX4_gateHere_28 : decode cX4_gateHere 28 = .ok (.iastore, 1) := by decide +kernel
theorem dX4_gateHere_29 : decode cX4_gateHere 29 = .ok (.aload_n 0, 1) := by decide +kernel
theorem dX4_gateHere_30 : decode cX4_gateHere 30 = .ok (.invokevirtual 242, 3) := by decide +kernel
theorem dX4_gateHere_33 : decode cX4_gateHere 33 = .ok (.iconst 1, 1) := by decide +kernel
theorem dX4_gateHere_34 : decode cX4_gateHere 34 = .ok (.ireturn, 1) := by decide +kernel
theorem dX4_beastsHere_0 : decode cX4_beastsHere 0 = .ok (.aload_n 0, 1) := by decide +kernel
theorem dX4_beastsHere_1 : decode cX4_beastsHere 1 = .ok (.invokevirtual 242, 3) := by decide +kernel
theorem dX4_beastsHere_4 : decode cX4_beastsHere 4 = .ok (.aload_n 0, 1) := by decide +kernel
theorem dX4_beastsHere_5 : decode cX4_beastsHere 5 = .ok (.iconst 0, 1) := by decide +kernel
theorem dX4_beastsHere_6 : decode cX4_beastsHere 6 = .ok (.bipush 8, 2) := by decide +kernel
theorem dX4_beastsHere_8 : decode cX4_beastsHere 8 = .ok (.invokevirtual 245, 3) := by decide +kernel
theorem dX4_beastsHere_11 : decode cX4_beastsHere 11 = .ok (.ifCond .ne 5, 3) := by decide +kernel
theorem dX4_beastsHere_14 : decode cX4_beastsHere 14 = .ok (.iconst 0, 1) := by decide +kernel
theorem dX4_beastsHere_15 : decode cX4_beastsHere 15 = .ok (.ireturn, 1) := by decide +kernel
theorem dX4_beastsHere_16 : decode cX4_beastsHere 16 = .ok (.aload_n 0, 1) := by decide +kernel
theorem dX4_beastsHere_17 : decode cX4_beastsHere 17 = .ok (.getfield 215, 3) := by decide +kernel
theorem dX4_beastsHere_20 : decode cX4_beastsHere 20 = .ok (.istore_n 1, 1) := by decide +kernel
theorem dX4_beastsHere_21 : decode cX4_beastsHere 21 = .ok (.aload_n 0, 1) := by decide +kernel
theorem dX4_beastsHere_22 : decode cX4_beastsHere 22 = .ok (.invokevirtual 242, 3) := by decide +kernel
theorem dX4_beastsHere_25 : decode cX4_beastsHere 25 = .ok (.aload_n 0, 1) := by decide +kernel
theorem dX4_beastsHere_26 : decode cX4_beastsHere 26 = .ok (.iconst 0, 1) := by decide +kernel
theorem dX4_beastsHere_27 : decode cX4_beastsHere 27 = .ok (.sipush 9999, 3) := by decide +kernel
theorem dX4_beastsHere_30 : decode cX4_beastsHere 30 = .ok (.invokevirtual 245, 3) := by decide +kernel
theorem dX4_beastsHere_33 : decode cX4_beastsHere 33 = .ok (.ifCond .ne 5, 3) := by decide +kernel
theorem dX4_beastsHere_36 : decode cX4_beastsHere 36 = .ok (.iconst 0, 1) := by decide +kernel
theorem dX4_beastsHere_37 : decode cX4_beastsHere 37 = .ok (.ireturn, 1) := by decide +kernel
theorem dX4_beastsHere_38 : decode cX4_beastsHere 38 = .ok (.aload_n 0, 1) := by decide +kernel
theorem dX4_beastsHere_39 : decode cX4_beastsHere 39 = .ok (.getfield 7, 3) := by decide +kernel
theorem dX4_beastsHere_42 : decode cX4_beastsHere 42 = .ok (.iconst 4, 1) := by decide +kernel
theorem dX4_beastsHere_43 : decode cX4_beastsHere 43 = .ok (.iload_n 1, 1) := by decide +kernel
theorem dX4_beastsHere_44 : decode cX4_beastsHere 44 = .ok (.iadd, 1) := by decide +kernel
theorem dX4_beastsHere_45 : decode cX4_beastsHere 45 = .ok (.aload_n 0, 1) := by decide +kernel
theorem dX4_beastsHere_46 : decode cX4_beastsHere 46 = .ok (.getfield 215, 3) := by decide +kernel
theorem dX4_beastsHere_49 : decode cX4_beastsHere 49 = .ok (.iastore, 1) := by decide +kernel
theorem dX4_beastsHere_50 : decode cX4_beastsHere 50 = .ok (.aload_n 0, 1) := by decide +kernel
theorem dX4_beastsHere_51 : decode cX4_beastsHere 51 = .ok (.invokevirtual 242, 3) := by decide +kernel
theorem dX4_beastsHere_54 : decode cX4_beastsHere 54 = .ok (.iconst 1, 1) := by decide +kernel
theorem dX4_beastsHere_55 : decode cX4_beastsHere 55 = .ok (.ireturn, 1) := by decide +kernel
theorem dX4_windHere_0 : decode cX4_windHere 0 = .ok (.aload_n 0, 1) := by decide +kernel
theorem dX4_windHere_1 : decode cX4_windHere 1 = .ok (.invokevirtual 242, 3) := by decide +kernel
theorem dX4_windHere_4 : decode cX4_windHere 4 = .ok (.aload_n 0, 1) := by decide +kernel
theorem dX4_windHere_5 : decode cX4_windHere 5 = .ok (.iconst 0, 1) := by decide +kernel
theorem dX4_windHere_6 : decode cX4_windHere 6 = .ok (.bipush 9, 2) := by decide +kernel
theorem dX4_windHere_8 : decode cX4_windHere 8 = .ok (.invokevirtual 245, 3) := by decide +kernel
theorem dX4_windHere_11 : decode cX4_windHere 11 = .ok (.ifCond .ne 5, 3) := by decide +kernel
theorem dX4_windHere_14 : decode cX4_windHere 14 = .ok (.iconst 0, 1) := by decide +kernel
theorem dX4_windHere_15 : decode cX4_windHere 15 = .ok (.ireturn, 1) := by decide +kernel
theorem dX4_windHere_16 : decode cX4_windHere 16 = .ok (.aload_n 0, 1) := by decide +kernel
theorem dX4_windHere_17 : decode cX4_windHere 17 = .ok (.getfield 7, 3) := by decide +kernel
theorem dX4_windHere_20 : decode cX4_windHere 20 = .ok (.iconst 3, 1) := by decide +kernel
theorem dX4_windHere_21 : decode cX4_windHere 21 = .ok (.aload_n 0, 1) := by decide +kernel
theorem dX4_windHere_22 : decode cX4_windHere 22 = .ok (.getfield 215, 3) := by decide +kernel
theorem dX4_windHere_25 : decode cX4_windHere 25 = .ok (.iastore, 1) := by decide +kernel
theorem dX4_windHere_26 : decode cX4_windHere 26 = .ok (.aload_n 0, 1) := by decide +kernel
theorem dX4_windHere_27 : decode cX4_windHere 27 = .ok (.invokevirtual 242, 3) := by decide +kernel
theorem dX4_windHere_30 : decode cX4_windHere 30 = .ok (.iconst 1, 1) := by decide +kernel
theorem dX4_windHere_31 : decode cX4_windHere 31 = .ok (.ireturn, 1) := by decide +kernel
theorem dX4_itemHere_0 : decode cX4_itemHere 0 = .ok (.aload_n 0, 1) := by decide +kernel
theorem dX4_itemHere_1 : decode cX4_itemHere 1 = .ok (.invokevirtual 248, 3) := by decide +kernel
theorem dX4_itemHere_4 : decode cX4_itemHere 4 = .ok (.istore_n 1, 1) := by decide +kernel
theorem dX4_itemHere_5 : decode cX4_itemHere 5 = .ok (.iload_n 1, 1) := by decide +kernel
theorem dX4_itemHere_6 : decode cX4_itemHere 6 = .ok (.ifCond .lt 9, 3) := by decide +kernel
theorem dX4_itemHere_9 : decode cX4_itemHere 9 = .ok (.aload_n 0, 1) := by decide +kernel
theorem dX4_itemHere_10 : decode cX4_itemHere 10 = .ok (.iload_n 1, 1) := by decide +kernel
theorem dX4_itemHere_11 : decode cX4_itemHere 11 = .ok (.invokevirtual 251, 3) := by decide +kernel
theorem dX4_itemHere_14 : decode cX4_itemHere 14 = .ok (.ireturn, 1) := by decide +kernel
theorem dX4_itemHere_15 : decode cX4_itemHere 15 = .ok (.aload_n 0, 1) := by decide +kernel
theorem dX4_itemHere_16 : decode cX4_itemHere 16 = .ok (.invokevirtual 254, 3) := by decide +kernel
theorem dX4_itemHere_19 : decode cX4_itemHere 19 = .ok (.istore_n 2, 1) := by decide +kernel
theorem dX4_itemHere_20 : decode cX4_itemHere 20 = .ok (.iload_n 2, 1) := by decide +kernel
theorem dX4_itemHere_21 : decode cX4_itemHere 21 = .ok (.ifCond .lt 9, 3) := by decide +kernel
theorem dX4_itemHere_24 : decode cX4_itemHere 24 = .ok (.aload_n 0, 1) := by decide +kernel
theorem dX4_itemHere_25 : decode cX4_itemHere 25 = .ok (.iload_n 2, 1) := by decide +kernel
theorem dX4_itemHere_26 : decode cX4_itemHere 26 = .ok (.invokevirtual 257, 3) := by decide +kernel
theorem dX4_itemHere_29 : decode cX4_itemHere 29 = .ok (.ireturn, 1) := by decide +kernel
theorem dX4_itemHere_30 : decode cX4_itemHere 30 = .ok (.aload_n 0, 1) := by decide +kernel
theorem dX4_itemHere_31 : decode cX4_itemHere 31 = .ok (.bipush 98, 2) := by decide +kernel
theorem dX4_itemHere_33 : decode cX4_itemHere 33 = .ok (.bipush 101, 2) := by decide +kernel
theorem dX4_itemHere_35 : decode cX4_itemHere 35 = .ok (.bipush 97, 2) := by decide +kernel
theorem dX4_itemHere_37 : decode cX4_itemHere 37 = .ok (.bipush 115, 2) := by decide +kernel
theorem dX4_itemHere_39 : decode cX4_itemHere 39 = .ok (.bipush 116, 2) := by decide +kernel
theorem dX4_itemHere_41 : decode cX4_itemHere 41 = .ok (.bipush 115, 2) := by decide +kernel
theorem dX4_itemHere_43 : decode cX4_itemHere 43 = .ok (.invokevirtual 231, 3) := by decide +kernel
theorem dX4_itemHere_46 : decode cX4_itemHere 46 = .ok (.ifCond .eq 8, 3) := by decide +kernel
theorem dX4_itemHere_49 : decode cX4_itemHere 49 = .ok (.aload_n 0, 1) := by decide +kernel
theorem dX4_itemHere_50 : decode cX4_itemHere 50 = .ok (.invokevirtual 260, 3) := by decide +kernel
theorem dX4_itemHere_53 : decode cX4_itemHere 53 = .ok (.ireturn, 1) := by decide +kernel
theorem dX4_itemHere_54 : decode cX4_itemHere 54 = .ok (.aload_n 0, 1) := by decide +kernel
theorem dX4_itemHere_55 : decode cX4_itemHere 55 = .ok (.bipush 119, 2) := by decide +kernel
theorem dX4_itemHere_57 : decode cX4_itemHere 57 = .ok (.bipush 105, 2) := by decide +kernel
theorem dX4_itemHere_59 : decode cX4_itemHere 59 = .ok (.bipush 110, 2) := by decide +kernel
theorem dX4_itemHere_61 : decode cX4_itemHere 61 = .ok (.bipush 100, 2) := by decide +kernel
theorem dX4_itemHere_63 : decode cX4_itemHere 63 = .ok (.invokevirtual 239, 3) := by decide +kernel
theorem dX4_itemHere_66 : decode cX4_itemHere 66 = .ok (.ifCond .eq 10, 3) := by decide +kernel
theorem dX4_itemHere_69 : decode cX4_itemHere 69 = .ok (.aload_n 0, 1) := by decide +kernel
theorem dX4_itemHere_70 : decode cX4_itemHere 70 = .ok (.invokevirtual 263, 3) := by decide +kernel
theorem dX4_itemHere_73 : decode cX4_itemHere 73 = .ok (.goto 7, 3) := by decide +kernel
theorem dX4_itemHere_76 : decode cX4_itemHere 76 = .ok (.aload_n 0, 1) := by decide +kernel
theorem dX4_itemHere_77 : decode cX4_itemHere 77 = .ok (.invokevirtual 227, 3) := by decide +kernel
theorem dX4_itemHere_80 : decode cX4_itemHere 80 = .ok (.ireturn, 1) := by decide +kernel
theorem dX4_text_0 : decode cX4_text 0 = .ok (.aload_n 0, 1) := by decide +kernel
theorem dX4_text_1 : decode cX4_text 1 = .ok (.getfield 7, 3) := by decide +kernel
theorem dX4_text_4 : decode cX4_text 4 = .ok (.aload_n 0, 1) := by decide +kernel
theorem dX4_text_5 : decode cX4_text 5 = .ok (.getfield 16, 3) := by decide +kernel
theorem dX4_text_8 : decode cX4_text 8 = .ok (.invokestatic 141, 3) := by decide +kernel
theorem dX4_text_11 : decode cX4_text 11 = .ok (.aload_n 0, 1) := by decide +kernel
theorem dX4_text_12 : decode cX4_text 12 = .ok (.iconst 0, 1) := by decide +kernel
theorem dX4_text_13 : decode cX4_text 13 = .ok (.putfield 197, 3) := by decide +kernel
theorem dX4_text_16 : decode cX4_text 16 = .ok (.aload_n 0, 1) := by decide +kernel
theorem dX4_text_17 : decode cX4_text 17 = .ok (.invokevirtual 242, 3) := by decide +kernel
theorem dX4_text_20 : decode cX4_text 20 = .ok (.iconst 1, 1) := by decide +kernel
theorem dX4_text_21 : decode cX4_text 21 = .ok (.istore_n 1, 1) := by decide +kernel
theorem dX4_text_22 : decode cX4_text 22 = .ok (.aload_n 0, 1) := by decide +kernel
theorem dX4_text_23 : decode cX4_text 23 = .ok (.invokevirtual 266, 3) := by decide +kernel
theorem dX4_text_26 : decode cX4_text 26 = .ok (.istore_n 2, 1) := by decide +kernel
theorem dX4_text_27 : decode cX4_text 27 = .ok (.iload_n 2, 1) := by decide +kernel
theorem dX4_text_28 : decode cX4_text 28 = .ok (.ifCond .eq 26, 3) := by decide +kernel
theorem dX4_text_31 : decode cX4_text 31 = .ok (.aload_n 0, 1) := by decide +kernel
theorem dX4_text_32 : decode cX4_text 32 = .ok (.getfield 212, 3) := by decide +kernel
theorem dX4_text_35 : decode cX4_text 35 = .ok (.iconst 3, 1) := by decide +kernel
theorem dX4_text_36 : decode cX4_text 36 = .ok (.if_icmp .ne 18, 3) := by decide +kernel
theorem dX4_text_39 : decode cX4_text 39 = .ok (.aload_n 0, 1) := by decide +kernel
theorem dX4_text_40 : decode cX4_text 40 = .ok (.invokevirtual 242, 3) := by decide +kernel
theorem dX4_text_43 : decode cX4_text 43 = .ok (.aload_n 0, 1) := by decide +kernel
theorem dX4_text_44 : decode cX4_text 44 = .ok (.invokevirtual 266, 3) := by decide +kernel
theorem dX4_text_47 : decode cX4_text 47 = .ok (.istore_n 2, 1) := by decide +kernel
theorem dX4_text_48 : decode cX4_text 48 = .ok (.iinc 1 1, 3) := by decide +kernel
theorem dX4_text_51 : decode cX4_text 51 = .ok (.goto (-24), 3) := by decide +kernel
theorem dX4_text_54 : decode cX4_text 54 = .ok (.iload_n 2, 1) := by decide +kernel
theorem dX4_text_55 : decode cX4_text 55 = .ok (.ifCond .eq 21, 3) := by decide +kernel
theorem dX4_text_58 : decode cX4_text 58 = .ok (.aload_n 0, 1) := by decide +kernel
theorem dX4_text_59 : decode cX4_text 59 = .ok (.getfield 212, 3) := by decide +kernel
theorem dX4_text_62 : decode cX4_text 62 = .ok (.ifCond .eq 10, 3) := by decide +kernel
theorem dX4_text_65 : decode cX4_text 65 = .ok (.aload_n 0, 1) := by decide +kernel
theorem dX4_text_66 : decode cX4_text 66 = .ok (.invokevirtual 227, 3) := by decide +kernel
theorem dX4_text_69 : decode cX4_text 69 = .ok (.ifCond .eq 7, 3) := by decide +kernel
theorem dX4_text_72 : decode cX4_text 72 = .ok (.iconst 1, 1) := by decide +kernel
theorem dX4_text_73 : decode cX4_text 73 = .ok (.goto 4, 3) := by decide +kernel
theorem dX4_text_76 : decode cX4_text 76 = .ok (.iconst 0, 1) := by decide +kernel
theorem dX4_text_77 : decode cX4_text 77 = .ok (.istore_n 2, 1) := by decide +kernel
theorem dX4_text_78 : decode cX4_text 78 = .ok (.aload_n 0, 1) := by decide +kernel
theorem dX4_text_79 : decode cX4_text 79 = .ok (.iconst 0, 1) := by decide +kernel
theorem dX4_text_80 : decode cX4_text 80 = .ok (.putfield 193, 3) := by decide +kernel
theorem dX4_text_83 : decode cX4_text 83 = .ok (.iload_n 2, 1) := by decide +kernel
theorem dX4_text_84 : decode cX4_text 84 = .ok (.ifCond .ne 14, 3) := by decide +kernel
theorem dX4_text_87 : decode cX4_text 87 = .ok (.aload_n 0, 1) := by decide +kernel
theorem dX4_text_88 : decode cX4_text 88 = .ok (.getfield 16, 3) := by decide +kernel
theorem dX4_text_91 : decode cX4_text 91 = .ok (.aload_n 0, 1) := by decide +kernel
theorem dX4_text_92 : decode cX4_text 92 = .ok (.getfield 7, 3) := by decide +kernel
theorem dX4_text_95 : decode cX4_text 95 = .ok (.invokestatic 141, 3) := by decide +kernel
theorem dX4_text_98 : decode cX4_text 98 = .ok (.iload_n 2, 1) := by decide +kernel
theorem dX4_text_99 : decode cX4_text 99 = .ok (.ifCond .eq 7, 3) := by decide +kernel
theorem dX4_text_102 : decode cX4_text 102 = .ok (.iload_n 1, 1) := by decide +kernel
theorem dX4_text_103 : decode cX4_text 103 = .ok (.goto 9, 3) := by decide +kernel
theorem dX4_text_106 : decode cX4_text 106 = .ok (.iconst (-1), 1) := by decide +kernel
theorem dX4_text_107 : decode cX4_text 107 = .ok (.aload_n 0, 1) := by decide +kernel
theorem dX4_text_108 : decode cX4_text 108 = .ok (.getfield 218, 3) := by decide +kernel
theorem dX4_text_111 : decode cX4_text 111 = .ok (.isub, 1) := by decide +kernel
theorem dX4_text_112 : decode cX4_text 112 = .ok (.ireturn, 1) := by decide +kernel
theorem dX4_hold_0 : decode cX4_hold 0 = .ok (.iload_n 1, 1) := by decide +kernel
theorem dX4_hold_1 : decode cX4_hold 1 = .ok (.i2l, 1) := by decide +kernel
theorem dX4_hold_2 : decode cX4_hold 2 = .ok (.lconst 0, 1) := by decide +kernel
theorem dX4_hold_3 : decode cX4_hold 3 = .ok (.ldc2_w 74, 3) := by decide +kernel
theorem dX4_hold_6 : decode cX4_hold 6 = .ok (.invokestatic 43, 3) := by decide +kernel
theorem dX4_hold_9 : decode cX4_hold 9 = .ok (.ifCond .eq 16, 3) := by decide +kernel
theorem dX4_hold_12 : decode cX4_hold 12 = .ok (.iload_n 2, 1) := by decide +kernel
theorem dX4_hold_13 : decode cX4_hold 13 = .ok (.iconst (-1), 1) := by decide +kernel
theorem dX4_hold_14 : decode cX4_hold 14 = .ok (.if_icmp .eq 18, 3) := by decide +kernel
theorem dX4_hold_17 : decode cX4_hold 17 = .ok (.aload_n 0, 1) := by decide +kernel
theorem dX4_hold_18 : decode cX4_hold 18 = .ok (.iload_n 2, 1) := by decide +kernel
theorem dX4_hold_19 : decode cX4_hold 19 = .ok (.invokevirtual 89, 3) := by decide +kernel
theorem dX4_hold_22 : decode cX4_hold 22 = .ok (.ifCond .ne 10, 3) := by decide +kernel
theorem dX4_hold_25 : decode cX4_hold 25 = .ok (.aload_n 0, 1) := by decide +kernel
theorem dX4_hold_26 : decode cX4_hold 26 = .ok (.ldc 40, 2) := by decide +kernel
theorem dX4_hold_28 : decode cX4_hold 28 = .ok (.invokevirtual 48, 3) := by decide +kernel
theorem dX4_hold_31 : decode cX4_hold 31 = .ok (.ireturn, 1) := by decide +kernel
theorem dX4_hold_32 : decode cX4_hold 32 = .ok (.aload_n 0, 1) := by decide +kernel
theorem dX4_hold_33 : decode cX4_hold 33 = .ok (.getfield 7, 3) := by decide +kernel
theorem dX4_hold_36 : decode cX4_hold 36 = .ok (.bipush 61, 2) := by decide +kernel
theorem dX4_hold_38 : decode cX4_hold 38 = .ok (.iload_n 1, 1) := by decide +kernel
theorem dX4_hold_39 : decode cX4_hold 39 = .ok (.iadd, 1) := by decide +kernel
theorem dX4_hold_40 : decode cX4_hold 40 = .ok (.iload_n 2, 1) := by decide +kernel
theorem dX4_hold_41 : decode cX4_hold 41 = .ok (.iastore, 1) := by decide +kernel
theorem dX4_hold_42 : decode cX4_hold 42 = .ok (.iconst 1, 1) := by decide +kernel
theorem dX4_hold_43 : decode cX4_hold 43 = .ok (.ireturn, 1) := by decide +kernel
theorem dX4_isUnder_0 : decode cX4_isUnder 0 = .ok (.iload_n 1, 1) := by decide +kernel
theorem dX4_isUnder_1 : decode cX4_isUnder 1 = .ok (.ifCond .eq 44, 3) := by decide +kernel
theorem dX4_isUnder_4 : decode cX4_isUnder 4 = .ok (.iload_n 0, 1) := by decide +kernel
theorem dX4_isUnder_5 : decode cX4_isUnder 5 = .ok (.iload_n 1, 1) := by decide +kernel
theorem dX4_isUnder_6 : decode cX4_isUnder 6 = .ok (.if_icmp .eq 39, 3) := by decide +kernel
theorem dX4_isUnder_9 : decode cX4_isUnder 9 = .ok (.iload_n 1, 1) := by decide +kernel
theorem dX4_isUnder_10 : decode cX4_isUnder 10 = .ok (.iconst 2, 1) := by decide +kernel
theorem dX4_isUnder_11 : decode cX4_isUnder 11 = .ok (.if_icmp .ne 13, 3) := by decide +kernel
theorem dX4_isUnder_14 : decode cX4_isUnder 14 = .ok (.iload_n 0, 1) := by decide +kernel
theorem dX4_isUnder_15 : decode cX4_isUnder 15 = .ok (.iconst 3, 1) := by decide +kernel
theorem dX4_isUnder_16 : decode cX4_isUnder 16 = .ok (.if_icmp .eq 29, 3) := by decide +kernel
theorem dX4_isUnder_19 : decode cX4_isUnder 19 = .ok (.iload_n 0, 1) := by decide +kernel
theorem dX4_isUnder_20 : decode cX4_isUnder 20 = .ok (.iconst 4, 1) := by decide +kernel
theorem dX4_isUnder_21 : decode cX4_isUnder 21 = .ok (.if_icmp .eq 24, 3) := by decide +kernel
theorem dX4_isUnder_24 : decode cX4_isUnder 24 = .ok (.iload_n 1, 1) := by decide +kernel
theorem dX4_isUnder_25 : decode cX4_isUnder 25 = .ok (.iconst 3, 1) := by decide +kernel
theorem dX4_isUnder_26 : decode cX4_isUnder 26 = .ok (.if_icmp .ne 8, 3) := by decide +kernel
theorem dX4_isUnder_29 : decode cX4_isUnder 29 = .ok (.iload_n 0, 1) := by decide +kernel
theorem dX4_isUnder_30 : decode cX4_isUnder 30 = .ok (.iconst 4, 1) := by decide +kernel
theorem dX4_isUnder_31 : decode cX4_isUnder 31 = .ok (.if_icmp .eq 14, 3) := by decide +kernel
theorem dX4_isUnder_34 : decode cX4_isUnder 34 = .ok (.iload_n 1, 1) := by decide +kernel
theorem dX4_isUnder_35 : decode cX4_isUnder 35 = .ok (.iconst 1, 1) := by decide +kernel
theorem dX4_isUnder_36 : decode cX4_isUnder 36 = .ok (.if_icmp .ne 13, 3) := by decide +kernel
theorem dX4_isUnder_39 : decode cX4_isUnder 39 = .ok (.iload_n 0, 1) := by decide +kernel
theorem dX4_isUnder_40 : decode cX4_isUnder 40 = .ok (.bipush 6, 2) := by decide +kernel
theorem dX4_isUnder_42 : decode cX4_isUnder 42 = .ok (.if_icmp .ne 7, 3) := by decide +kernel
theorem dX4_isUnder_45 : decode cX4_isUnder 45 = .ok (.iconst 1, 1) := by decide +kernel
theorem dX4_isUnder_46 : decode cX4_isUnder 46 = .ok (.goto 4, 3) := by decide +kernel
theorem dX4_isUnder_49 : decode cX4_isUnder 49 = .ok (.iconst 0, 1) := by decide +kernel
theorem dX4_isUnder_50 : decode cX4_isUnder 50 = .ok (.ireturn, 1) := by decide +kernel
theorem dX4_as_0 : decode cX4_as 0 = .ok (.iload_n 1, 1) := by decide +kernel
theorem dX4_as_1 : decode cX4_as 1 = .ok (.i2l, 1) := by decide +kernel
theorem dX4_as_2 : decode cX4_as 2 = .ok (.lconst 0, 1) := by decide +kernel
theorem dX4_as_3 : decode cX4_as 3 = .ok (.ldc2_w 74, 3) := by decide +kernel
theorem dX4_as_6 : decode cX4_as 6 = .ok (.invokestatic 43, 3) := by decide +kernel
theorem dX4_as_9 : decode cX4_as 9 = .ok (.ifCond .eq 15, 3) := by decide +kernel
theorem dX4_as_12 : decode cX4_as 12 = .ok (.iload_n 2, 1) := by decide +kernel
theorem dX4_as_13 : decode cX4_as 13 = .ok (.i2l, 1) := by decide +kernel
theorem dX4_as_14 : decode cX4_as 14 = .ok (.lconst 0, 1) := by decide +kernel
theorem dX4_as_15 : decode cX4_as 15 = .ok (.ldc2_w 79, 3) := by decide +kernel
theorem dX4_as_18 : decode cX4_as 18 = .ok (.invokestatic 43, 3) := by decide +kernel
theorem dX4_as_21 : decode cX4_as 21 = .ok (.ifCond .ne 10, 3) := by decide +kernel
theorem dX4_as_24 : decode cX4_as 24 = .ok (.aload_n 0, 1) := by decide +kernel
theorem dX4_as_25 : decode cX4_as 25 = .ok (.ldc 40, 2) := by decide +kernel
theorem dX4_as_27 : decode cX4_as 27 = .ok (.invokevirtual 48, 3) := by decide +kernel
theorem dX4_as_30 : decode cX4_as 30 = .ok (.ireturn, 1) := by decide +kernel
theorem dX4_as_31 : decode cX4_as 31 = .ok (.aload_n 0, 1) := by decide +kernel
theorem dX4_as_32 : decode cX4_as 32 = .ok (.getfield 7, 3) := by decide +kernel
theorem dX4_as_35 : decode cX4_as 35 = .ok (.bipush 61, 2) := by decide +kernel
theorem dX4_as_37 : decode cX4_as 37 = .ok (.iload_n 1, 1) := by decide +kernel
theorem dX4_as_38 : decode cX4_as 38 = .ok (.iadd, 1) := by decide +kernel
theorem dX4_as_39 : decode cX4_as 39 = .ok (.iaload, 1) := by decide +kernel
theorem dX4_as_40 : decode cX4_as 40 = .ok (.istore_n 3, 1) := by decide +kernel
theorem dX4_as_41 : decode cX4_as 41 = .ok (.iload_n 3, 1) := by decide +kernel
theorem dX4_as_42 : decode cX4_as 42 = .ok (.ifCond .ge 11, 3) := by decide +kernel
theorem dX4_as_45 : decode cX4_as 45 = .ok (.aload_n 0, 1) := by decide +kernel
theorem dX4_as_46 : decode cX4_as 46 = .ok (.ldc_w 269, 3) := by decide +kernel
theorem dX4_as_49 : decode cX4_as 49 = .ok (.invokevirtual 48, 3) := by decide +kernel
theorem dX4_as_52 : decode cX4_as 52 = .ok (.ireturn, 1) := by decide +kernel
theorem dX4_as_53 : decode cX4_as 53 = .ok (.aload_n 0, 1) := by decide +kernel
theorem dX4_as_54 : decode cX4_as 54 = .ok (.iload_n 3, 1) := by decide +kernel
theorem dX4_as_55 : decode cX4_as 55 = .ok (.iconst 0, 1) := by decide +kernel
theorem dX4_as_56 : decode cX4_as 56 = .ok (.invokevirtual 62, 3) := by decide +kernel
theorem dX4_as_59 : decode cX4_as 59 = .ok (.iload_n 2, 1) := by decide +kernel
theorem dX4_as_60 : decode cX4_as 60 = .ok (.invokestatic 270, 3) := by decide +kernel
theorem dX4_as_63 : decode cX4_as 63 = .ok (.ifCond .eq 7, 3) := by decide +kernel
theorem dX4_as_66 : decode cX4_as 66 = .ok (.iload_n 3, 1) := by decide +kernel
theorem dX4_as_67 : decode cX4_as 67 = .ok (.goto 10, 3) := by decide +kernel
theorem dX4_as_70 : decode cX4_as 70 = .ok (.aload_n 0, 1) := by decide +kernel
theorem dX4_as_71 : decode cX4_as 71 = .ok (.ldc_w 273, 3) := by decide +kernel
theorem dX4_as_74 : decode cX4_as 74 = .ok (.invokevirtual 48, 3) := by decide +kernel
theorem dX4_as_77 : decode cX4_as 77 = .ok (.ireturn, 1) := by decide +kernel
theorem dX4_isSheet_0 : decode cX4_isSheet 0 = .ok (.iload_n 0, 1) := by decide +kernel
theorem dX4_isSheet_1 : decode cX4_isSheet 1 = .ok (.ifCond .lt 12, 3) := by decide +kernel
theorem dX4_isSheet_4 : decode cX4_isSheet 4 = .ok (.iload_n 0, 1) := by decide +kernel
theorem dX4_isSheet_5 : decode cX4_isSheet 5 = .ok (.iconst 4, 1) := by decide +kernel
theorem dX4_isSheet_6 : decode cX4_isSheet 6 = .ok (.if_icmp .ge 7, 3) := by decide +kernel
theorem dX4_isSheet_9 : decode cX4_isSheet 9 = .ok (.iconst 1, 1) := by decide +kernel
theorem dX4_isSheet_10 : decode cX4_isSheet 10 = .ok (.goto 4, 3) := by decide +kernel
theorem dX4_isSheet_13 : decode cX4_isSheet 13 = .ok (.iconst 0, 1) := by decide +kernel
theorem dX4_isSheet_14 : decode cX4_isSheet 14 = .ok (.ireturn, 1) := by decide +kernel
theorem dX4_sheet_0 : decode cX4_sheet 0 = .ok (.iload_n 1, 1) := by decide +kernel
theorem dX4_sheet_1 : decode cX4_sheet 1 = .ok (.invokestatic 274, 3) := by decide +kernel
theorem dX4_sheet_4 : decode cX4_sheet 4 = .ok (.ifCond .eq 25, 3) := by decide +kernel
theorem dX4_sheet_7 : decode cX4_sheet 7 = .ok (.iload_n 2, 1) := by decide +kernel
theorem dX4_sheet_8 : decode cX4_sheet 8 = .ok (.ifCond .eq 28, 3) := by decide +kernel
theorem dX4_sheet_11 : decode cX4_sheet 11 = .ok (.iload_n 2, 1) := by decide +kernel
theorem dX4_sheet_12 : decode cX4_sheet 12 = .ok (.bipush 8, 2) := by decide +kernel
theorem dX4_sheet_14 : decode cX4_sheet 14 = .ok (.if_icmp .eq 22, 3) := by decide +kernel
theorem dX4_sheet_17 : decode cX4_sheet 17 = .ok (.iload_n 2, 1) := by decide +kernel
theorem dX4_sheet_18 : decode cX4_sheet 18 = .ok (.bipush 16, 2) := by decide +kernel
theorem dX4_sheet_20 : decode cX4_sheet 20 = .ok (.if_icmp .eq 16, 3) := by decide +kernel
theorem dX4_sheet_23 : decode cX4_sheet 23 = .ok (.iload_n 2, 1) := by decide +kernel
theorem dX4_sheet_24 : decode cX4_sheet 24 = .ok (.bipush 32, 2) := by decide +kernel
theorem dX4_sheet_26 : decode cX4_sheet 26 = .ok (.if_icmp .eq 10, 3) := by decide +kernel
theorem dX4_sheet_29 : decode cX4_sheet 29 = .ok (.aload_n 0, 1) := by decide +kernel
theorem dX4_sheet_30 : decode cX4_sheet 30 = .ok (.ldc 40, 2) := by decide +kernel
theorem dX4_sheet_32 : decode cX4_sheet 32 = .ok (.invokevirtual 48, 3) := by decide +kernel
theorem dX4_sheet_35 : decode cX4_sheet 35 = .ok (.ireturn, 1) := by decide +kernel
theorem dX4_sheet_36 : decode cX4_sheet 36 = .ok (.iload_n 3, 1) := by decide +kernel
theorem dX4_sheet_37 : decode cX4_sheet 37 = .ok (.ifCond .ge 11, 3) := by decide +kernel
theorem dX4_sheet_40 : decode cX4_sheet 40 = .ok (.aload_n 0, 1) := by decide +kernel
theorem dX4_sheet_41 : decode cX4_sheet 41 = .ok (.ldc_w 277, 3) := by decide +kernel
theorem dX4_sheet_44 : decode cX4_sheet 44 = .ok (.invokevirtual 48, 3) := by decide +kernel
theorem dX4_sheet_47 : decode cX4_sheet 47 = .ok (.ireturn, 1) := by decide +kernel
theorem dX4_sheet_48 : decode cX4_sheet 48 = .ok (.iload_n 3, 1) := by decide +kernel
theorem dX4_sheet_49 : decode cX4_sheet 49 = .ok (.bipush 40, 2) := by decide +kernel
theorem dX4_sheet_51 : decode cX4_sheet 51 = .ok (.if_icmp .le 10, 3) := by decide +kernel
theorem dX4_sheet_54 : decode cX4_sheet 54 = .ok (.aload_n 0, 1) := by decide +kernel
theorem dX4_sheet_55 : decode cX4_sheet 55 = .ok (.ldc 40, 2) := by decide +kernel
theorem dX4_sheet_57 : decode cX4_sheet 57 = .ok (.invokevirtual 48, 3) := by decide +kernel
theorem dX4_sheet_60 : decode cX4_sheet 60 = .ok (.ireturn, 1) := by decide +kernel
theorem dX4_sheet_61 : decode cX4_sheet 61 = .ok (.aload_n 0, 1) := by decide +kernel
theorem dX4_sheet_62 : decode cX4_sheet 62 = .ok (.getfield 28, 3) := by decide +kernel
theorem dX4_sheet_65 : decode cX4_sheet 65 = .ok (.iload_n 1, 1) := by decide +kernel
theorem dX4_sheet_66 : decode cX4_sheet 66 = .ok (.iload_n 2, 1) := by decide +kernel
theorem dX4_sheet_67 : decode cX4_sheet 67 = .ok (.ifCond .ne 7, 3) := by decide +kernel
theorem dX4_sheet_70 : decode cX4_sheet 70 = .ok (.iconst (-1), 1) := by decide +kernel
theorem dX4_sheet_71 : decode cX4_sheet 71 = .ok (.goto 4, 3) := by decide +kernel
theorem dX4_sheet_74 : decode cX4_sheet 74 = .ok (.iload_n 2, 1) := by decide +kernel
theorem dX4_sheet_75 : decode cX4_sheet 75 = .ok (.iastore, 1) := by decide +kernel
theorem dX4_sheet_76 : decode cX4_sheet 76 = .ok (.aload_n 0, 1) := by decide +kernel
theorem dX4_sheet_77 : decode cX4_sheet 77 = .ok (.getfield 31, 3) := by decide +kernel
theorem dX4_sheet_80 : decode cX4_sheet 80 = .ok (.iload_n 1, 1) := by decide +kernel
theorem dX4_sheet_81 : decode cX4_sheet 81 = .ok (.iload_n 2, 1) := by decide +kernel
theorem dX4_sheet_82 : decode cX4_sheet 82 = .ok (.ifCond .ne 7, 3) := by decide +kernel
theorem dX4_sheet_85 : decode cX4_sheet 85 = .ok (.iconst 0, 1) := by decide +kernel
theorem dX4_sheet_86 : decode cX4_sheet 86 = .ok (.goto 4, 3) := by decide +kernel
theorem dX4_sheet_89 : decode cX4_sheet 89 = .ok (.iload_n 3, 1) := by decide +kernel
theorem dX4_sheet_90 : decode cX4_sheet 90 = .ok (.iastore, 1) := by decide +kernel
theorem dX4_sheet_91 : decode cX4_sheet 91 = .ok (.iconst 0, 1) := by decide +kernel
theorem dX4_sheet_92 : decode cX4_sheet 92 = .ok (.istore 4, 2) := by decide +kernel
theorem dX4_sheet_94 : decode cX4_sheet 94 = .ok (.iload 4, 2) := by decide +kernel
theorem dX4_sheet_96 : decode cX4_sheet 96 = .ok (.bipush 40, 2) := by decide +kernel
theorem dX4_sheet_98 : decode cX4_sheet 98 = .ok (.if_icmp .ge 22, 3) := by decide +kernel
theorem dX4_sheet_101 : decode cX4_sheet 101 = .ok (.aload_n 0, 1) := by decide +kernel
theorem dX4_sheet_102 : decode cX4_sheet 102 = .ok (.getfield 34, 3) := by decide +kernel
theorem dX4_sheet_105 : decode cX4_sheet 105 = .ok (.bipush 40, 2) := by decide +kernel
theorem dX4_sheet_107 : decode cX4_sheet 107 = .ok (.iload_n 1, 1) := by decide +kernel
theorem dX4_sheet_108 : decode cX4_sheet 108 = .ok (.imul, 1) := by decide +kernel
theorem dX4_sheet_109 : decode cX4_sheet 109 = .ok (.iload 4, 2) := by decide +kernel
theorem dX4_sheet_111 : decode cX4_sheet 111 = .ok (.iadd, 1) := by decide +kernel
theorem dX4_sheet_112 : decode cX4_sheet 112 = .ok (.iconst 0, 1) := by decide +kernel
theorem dX4_sheet_113 : decode cX4_sheet 113 = .ok (.iastore, 1) := by decide +kernel
theorem dX4_sheet_114 : decode cX4_sheet 114 = .ok (.iinc 4 1, 3) := by decide +kernel
theorem dX4_sheet_117 : decode cX4_sheet 117 = .ok (.goto (-23), 3) := by decide +kernel
theorem dX4_sheet_120 : decode cX4_sheet 120 = .ok (.aload_n 0, 1) := by decide +kernel
theorem dX4_sheet_121 : decode cX4_sheet 121 = .ok (.getfield 31, 3) := by decide +kernel
theorem dX4_sheet_124 : decode cX4_sheet 124 = .ok (.iload_n 1, 1) := by decide +kernel
theorem dX4_sheet_125 : decode cX4_sheet 125 = .ok (.iaload, 1) := by decide +kernel
theorem dX4_sheet_126 : decode cX4_sheet 126 = .ok (.ireturn, 1) := by decide +kernel
theorem dX4_write_0 : decode cX4_write 0 = .ok (.iload_n 1, 1) := by decide +kernel
theorem dX4_write_1 : decode cX4_write 1 = .ok (.invokestatic 274, 3) := by decide +kernel
theorem dX4_write_4 : decode cX4_write 4 = .ok (.ifCond .ne 10, 3) := by decide +kernel
theorem dX4_write_7 : decode cX4_write 7 = .ok (.aload_n 0, 1) := by decide +kernel
theorem dX4_write_8 : decode cX4_write 8 = .ok (.ldc 40, 2) := by decide +kernel
theorem dX4_write_10 : decode cX4_write 10 = .ok (.invokevirtual 48, 3) := by decide +kernel
theorem dX4_write_13 : decode cX4_write 13 = .ok (.ireturn, 1) := by decide +kernel
theorem dX4_write_14 : decode cX4_write 14 = .ok (.aload_n 0, 1) := by decide +kernel
theorem dX4_write_15 : decode cX4_write 15 = .ok (.getfield 28, 3) := by decide +kernel
theorem dX4_write_18 : decode cX4_write 18 = .ok (.iload_n 1, 1) := by decide +kernel
theorem dX4_write_19 : decode cX4_write 19 = .ok (.iaload, 1) := by decide +kernel
theorem dX4_write_20 : decode cX4_write 20 = .ok (.ifCond .ge 11, 3) := by decide +kernel
theorem dX4_write_23 : decode cX4_write 23 = .ok (.aload_n 0, 1) := by decide +kernel
theorem dX4_write_24 : decode cX4_write 24 = .ok (.ldc_w 269, 3) := by decide +kernel
theorem dX4_write_27 : decode cX4_write 27 = .ok (.invokevirtual 48, 3) := by decide +kernel
theorem dX4_write_30 : decode cX4_write 30 = .ok (.ireturn, 1) := by decide +kernel
theorem dX4_write_31 : decode cX4_write 31 = .ok (.iload_n 2, 1) := by decide +kernel
theorem dX4_write_32 : decode cX4_write 32 = .ok (.i2l, 1) := by decide +kernel
theorem dX4_write_33 : decode cX4_write 33 = .ok (.lconst 0, 1) := by decide +kernel
theorem dX4_write_34 : decode cX4_write 34 = .ok (.aload_n 0, 1) := by decide +kernel
theorem dX4_write_35 : decode cX4_write 35 = .ok (.getfield 31, 3) := by decide +kernel
theorem dX4_write_38 : decode cX4_write 38 = .ok (.iload_n 1, 1) := by decide +kernel
theorem dX4_write_39 : decode cX4_write 39 = .ok (.iaload, 1) := by decide +kernel
theorem dX4_write_40 : decode cX4_write 40 = .ok (.iconst 1, 1) := by decide +kernel
theorem dX4_write_41 : decode cX4_write 41 = .ok (.isub, 1) := by decide +kernel
theorem dX4_write_42 : decode cX4_write 42 = .ok (.i2l, 1) := by decide +kernel
theorem dX4_write_43 : decode cX4_write 43 = .ok (.invokestatic 43, 3) := by decide +kernel
theorem dX4_write_46 : decode cX4_write 46 = .ok (.ifCond .ne 10, 3) := by decide +kernel
theorem dX4_write_49 : decode cX4_write 49 = .ok (.aload_n 0, 1) := by decide +kernel
theorem dX4_write_50 : decode cX4_write 50 = .ok (.ldc 40, 2) := by decide +kernel
theorem dX4_write_52 : decode cX4_write 52 = .ok (.invokevirtual 48, 3) := by decide +kernel
theorem dX4_write_55 : decode cX4_write 55 = .ok (.ireturn, 1) := by decide +kernel
theorem dX4_write_56 : decode cX4_write 56 = .ok (.aload_n 0, 1) := by decide +kernel
theorem dX4_write_57 : decode cX4_write 57 = .ok (.getfield 34, 3) := by decide +kernel
theorem dX4_write_60 : decode cX4_write 60 = .ok (.bipush 40, 2) := by decide +kernel
theorem dX4_write_62 : decode cX4_write 62 = .ok (.iload_n 1, 1) := by decide +kernel
theorem dX4_write_63 : decode cX4_write 63 = .ok (.imul, 1) := by decide +kernel
theorem dX4_write_64 : decode cX4_write 64 = .ok (.iload_n 2, 1) := by decide +kernel
theorem dX4_write_65 : decode cX4_write 65 = .ok (.iadd, 1) := by decide +kernel
theorem dX4_write_66 : decode cX4_write 66 = .ok (.aload_n 0, 1) := by decide +kernel
theorem dX4_write_67 : decode cX4_write 67 = .ok (.getfield 28, 3) := by decide +kernel
theorem dX4_write_70 : decode cX4_write 70 = .ok (.iload_n 1, 1) := by decide +kernel
theorem dX4_write_71 : decode cX4_write 71 = .ok (.iaload, 1) := by decide +kernel
theorem dX4_write_72 : decode cX4_write 72 = .ok (.bipush 8, 2) := by decide +kernel
theorem dX4_write_74 : decode cX4_write 74 = .ok (.if_icmp .ne 8, 3) := by decide +kernel
theorem dX4_write_77 : decode cX4_write 77 = .ok (.iload_n 3, 1) := by decide +kernel
theorem dX4_write_78 : decode cX4_write 78 = .ok (.i2b, 1) := by decide +kernel
theorem dX4_write_79 : decode cX4_write 79 = .ok (.goto 20, 3) := by decide +kernel
theorem dX4_write_82 : decode cX4_write 82 = .ok (.aload_n 0, 1) := by decide +kernel
theorem dX4_write_83 : decode cX4_write 83 = .ok (.getfield 28, 3) := by decide +kernel
theorem dX4_write_86 : decode cX4_write 86 = .ok (.iload_n 1, 1) := by decide +kernel
theorem dX4_write_87 : decode cX4_write 87 = .ok (.iaload, 1) := by decide +kernel
theorem dX4_write_88 : decode cX4_write 88 = .ok (.bipush 16, 2) := by decide +kernel
theorem dX4_write_90 : decode cX4_write 90 = .ok (.if_icmp .ne 8, 3) := by decide +kernel
theorem dX4_write_93 : decode cX4_write 93 = .ok (.iload_n 3, 1) := by decide +kernel
theorem dX4_write_94 : decode cX4_write 94 = .ok (.i2s, 1) := by decide +kernel
theorem dX4_write_95 : decode cX4_write 95 = .ok (.goto 4, 3) := by decide +kernel
theorem dX4_write_98 : decode cX4_write 98 = .ok (.iload_n 3, 1) := by decide +kernel
theorem dX4_write_99 : decode cX4_write 99 = .ok (.iastore, 1) := by decide +kernel
theorem dX4_write_100 : decode cX4_write 100 = .ok (.iconst 1, 1) := by decide +kernel
theorem dX4_write_101 : decode cX4_write 101 = .ok (.ireturn, 1) := by decide +kernel
theorem dX4_copy_0 : decode cX4_copy 0 = .ok (.iload_n 1, 1) := by decide +kernel
theorem dX4_copy_1 : decode cX4_copy 1 = .ok (.invokestatic 274, 3) := by decide +kernel
theorem dX4_copy_4 : decode cX4_copy 4 = .ok (.ifCond .eq 10, 3) := by decide +kernel
theorem dX4_copy_7 : decode cX4_copy 7 = .ok (.iload_n 3, 1) := by decide +kernel
theorem dX4_copy_8 : decode cX4_copy 8 = .ok (.invokestatic 274, 3) := by decide +kernel
theorem dX4_copy_11 : decode cX4_copy 11 = .ok (.ifCond .ne 10, 3) := by decide +kernel
theorem dX4_copy_14 : decode cX4_copy 14 = .ok (.aload_n 0, 1) := by decide +kernel
theorem dX4_copy_15 : decode cX4_copy 15 = .ok (.ldc 40, 2) := by decide +kernel
theorem dX4_copy_17 : decode cX4_copy 17 = .ok (.invokevirtual 48, 3) := by decide +kernel
theorem dX4_copy_20 : decode cX4_copy 20 = .ok (.ireturn, 1) := by decide +kernel
theorem dX4_copy_21 : decode cX4_copy 21 = .ok (.aload_n 0, 1) := by decide +kernel
theorem dX4_copy_22 : decode cX4_copy 22 = .ok (.getfield 28, 3) := by decide +kernel
theorem dX4_copy_25 : decode cX4_copy 25 = .ok (.iload_n 1, 1) := by decide +kernel
theorem dX4_copy_26 : decode cX4_copy 26 = .ok (.iaload, 1) := by decide +kernel
theorem dX4_copy_27 : decode cX4_copy 27 = .ok (.ifCond .lt 12, 3) := by decide +kernel
theorem dX4_copy_30 : decode cX4_copy 30 = .ok (.aload_n 0, 1) := by decide +kernel
theorem dX4_copy_31 : decode cX4_copy 31 = .ok (.getfield 28, 3) := by decide +kernel
theorem dX4_copy_34 : decode cX4_copy 34 = .ok (.iload_n 3, 1) := by decide +kernel
theorem dX4_copy_35 : decode cX4_copy 35 = .ok (.iaload, 1) := by decide +kernel
theorem dX4_copy_36 : decode cX4_copy 36 = .ok (.ifCond .ge 11, 3) := by decide +kernel
theorem dX4_copy_39 : decode cX4_copy 39 = .ok (.aload_n 0, 1) := by decide +kernel
theorem dX4_copy_40 : decode cX4_copy 40 = .ok (.ldc_w 269, 3) := by decide +kernel
theorem dX4_copy_43 : decode cX4_copy 43 = .ok (.invokevirtual 48, 3) := by decide +kernel
theorem dX4_copy_46 : decode cX4_copy 46 = .ok (.ireturn, 1) := by decide +kernel
theorem dX4_copy_47 : decode cX4_copy 47 = .ok (.aload_n 0, 1) := by decide +kernel
theorem dX4_copy_48 : decode cX4_copy 48 = .ok (.getfield 28, 3) := by decide +kernel
theorem dX4_copy_51 : decode cX4_copy 51 = .ok (.iload_n 1, 1) := by decide +kernel
theorem dX4_copy_52 : decode cX4_copy 52 = .ok (.iaload, 1) := by decide +kernel
theorem dX4_copy_53 : decode cX4_copy 53 = .ok (.aload_n 0, 1) := by decide +kernel
theorem dX4_copy_54 : decode cX4_copy 54 = .ok (.getfield 28, 3) := by decide +kernel
theorem dX4_copy_57 : decode cX4_copy 57 = .ok (.iload_n 3, 1) := by decide +kernel
theorem dX4_copy_58 : decode cX4_copy 58 = .ok (.iaload, 1) := by decide +kernel
theorem dX4_copy_59 : decode cX4_copy 59 = .ok (.if_icmp .eq 11, 3) := by decide +kernel
theorem dX4_copy_62 : decode cX4_copy 62 = .ok (.aload_n 0, 1) := by decide +kernel
theorem dX4_copy_63 : decode cX4_copy 63 = .ok (.ldc_w 273, 3) := by decide +kernel
theorem dX4_copy_66 : decode cX4_copy 66 = .ok (.invokevirtual 48, 3) := by decide +kernel
theorem dX4_copy_69 : decode cX4_copy 69 = .ok (.ireturn, 1) := by decide +kernel
theorem dX4_copy_70 : decode cX4_copy 70 = .ok (.iload_n 2, 1) := by decide +kernel
theorem dX4_copy_71 : decode cX4_copy 71 = .ok (.ifCond .lt 40, 3) := by decide +kernel
theorem dX4_copy_74 : decode cX4_copy 74 = .ok (.iload 4, 2) := by decide +kernel
theorem dX4_copy_76 : decode cX4_copy 76 = .ok (.ifCond .lt 35, 3) := by decide +kernel
theorem dX4_copy_79 : decode cX4_copy 79 = .ok (.iload 5, 2) := by decide +kernel
theorem dX4_copy_81 : decode cX4_copy 81 = .ok (.ifCond .lt 30, 3) := by decide +kernel
theorem dX4_copy_84 : decode cX4_copy 84 = .ok (.iload 5, 2) := by decide +kernel
theorem dX4_copy_86 : decode cX4_copy 86 = .ok (.aload_n 0, 1) := by decide +kernel
theorem dX4_copy_87 : decode cX4_copy 87 = .ok (.getfield 31, 3) := by decide +kernel
theorem dX4_copy_90 : decode cX4_copy 90 = .ok (.iload_n 1, 1) := by decide +kernel
theorem dX4_copy_91 : decode cX4_copy 91 = .ok (.iaload, 1) := by decide +kernel
theorem dX4_copy_92 : decode cX4_copy 92 = .ok (.iload_n 2, 1) := by decide +kernel
theorem dX4_copy_93 : decode cX4_copy 93 = .ok (.isub, 1) := by decide +kernel
theorem dX4_copy_94 : decode cX4_copy 94 = .ok (.if_icmp .gt 17, 3) := by decide +kernel
theorem dX4_copy_97 : decode cX4_copy 97 = .ok (.iload 5, 2) := by decide +kernel
theorem dX4_copy_99 : decode cX4_copy 99 = .ok (.aload_n 0, 1) := by decide +kernel
theorem dX4_copy_100 : decode cX4_copy 100 = .ok (.getfield 31, 3) := by decide +kernel
theorem dX4_copy_103 : decode cX4_copy 103 = .ok (.iload_n 3, 1) := by decide +kernel
theorem dX4_copy_104 : decode cX4_copy 104 = .ok (.iaload, 1) := by decide +kernel
theorem dX4_copy_105 : decode cX4_copy 105 = .ok (.iload 4, 2) := by decide +kernel
theorem dX4_copy_107 : decode cX4_copy 107 = .ok (.isub, 1) := by decide +kernel
theorem dX4_copy_108 : decode cX4_copy 108 = .ok (.if_icmp .le 10, 3) := by decide +kernel
theorem dX4_copy_111 : decode cX4_copy 111 = .ok (.aload_n 0, 1) := by decide +kernel
theorem dX4_copy_112 : decode cX4_copy 112 = .ok (.ldc 40, 2) := by decide +kernel
theorem dX4_copy_114 : decode cX4_copy 114 = .ok (.invokevirtual 48, 3) := by decide +kernel
theorem dX4_copy_117 : decode cX4_copy 117 = .ok (.ireturn, 1) := by decide +kernel
theorem dX4_copy_118 : decode cX4_copy 118 = .ok (.bipush 40, 2) := by decide +kernel
theorem dX4_copy_120 : decode cX4_copy 120 = .ok (.iload_n 1, 1) := by decide +kernel
theorem dX4_copy_121 : decode cX4_copy 121 = .ok (.imul, 1) := by decide +kernel
theorem dX4_copy_122 : decode cX4_copy 122 = .ok (.iload_n 2, 1) := by decide +kernel
theorem dX4_copy_123 : decode cX4_copy 123 = .ok (.iadd, 1) := by decide +kernel
theorem dX4_copy_124 : decode cX4_copy 124 = .ok (.istore 6, 2) := by decide +kernel
theorem dX4_copy_126 : decode cX4_copy 126 = .ok (.bipush 40, 2) := by decide +kernel
theorem dX4_copy_128 : decode cX4_copy 128 = .ok (.iload_n 3, 1) := by decide +kernel
theorem dX4_copy_129 : decode cX4_copy 129 = .ok (.imul, 1) := by decide +kernel
theorem dX4_copy_130 : decode cX4_copy 130 = .ok (.iload 4, 2) := by decide +kernel
theorem dX4_copy_132 : decode cX4_copy 132 = .ok (.iadd, 1) := by decide +kernel
theorem dX4_copy_133 : decode cX4_copy 133 = .ok (.istore 7, 2) := by decide +kernel
theorem dX4_copy_135 : decode cX4_copy 135 = .ok (.iconst 0, 1) := by decide +kernel
theorem dX4_copy_136 : decode cX4_copy 136 = .ok (.istore 8, 2) := by decide +kernel
theorem dX4_copy_138 : decode cX4_copy 138 = .ok (.iload 8, 2) := by decide +kernel
theorem dX4_copy_140 : decode cX4_copy 140 = .ok (.iload 5, 2) := by decide +kernel
theorem dX4_copy_142 : decode cX4_copy 142 = .ok (.if_icmp .ge 50, 3) := by decide +kernel
theorem dX4_copy_145 : decode cX4_copy 145 = .ok (.iload 6, 2) := by decide +kernel
theorem dX4_copy_147 : decode cX4_copy 147 = .ok (.iload 7, 2) := by decide +kernel
theorem dX4_copy_149 : decode cX4_copy 149 = .ok (.if_icmp .ge 13, 3) := by decide +kernel
theorem dX4_copy_152 : decode cX4_copy 152 = .ok (.iload 5, 2) := by decide +kernel
theorem dX4_copy_154 : decode cX4_copy 154 = .ok (.iconst 1, 1) := by decide +kernel
theorem dX4_copy_155 : decode cX4_copy 155 = .ok (.isub, 1) := by decide +kernel
theorem dX4_copy_156 : decode cX4_copy 156 = .ok (.iload 8, 2) := by decide +kernel
theorem dX4_copy_158 : decode cX4_copy 158 = .ok (.isub, 1) := by decide +kernel
theorem dX4_copy_159 : decode cX4_copy 159 = .ok (.goto 5, 3) := by decide +kernel
theorem dX4_copy_162 : decode cX4_copy 162 = .ok (.iload 8, 2) := by decide +kernel
theorem dX4_copy_164 : decode cX4_copy 164 = .ok (.istore 9, 2) := by decide +kernel
theorem dX4_copy_166 : decode cX4_copy 166 = .ok (.aload_n 0, 1) := by decide +kernel
theorem dX4_copy_167 : decode cX4_copy 167 = .ok (.getfield 34, 3) := by decide +kernel
theorem dX4_copy_170 : decode cX4_copy 170 = .ok (.iload 7, 2) := by decide +kernel
theorem dX4_copy_172 : decode cX4_copy 172 = .ok (.iload 9, 2) := by decide +kernel
theorem dX4_copy_174 : decode cX4_copy 174 = .ok (.iadd, 1) := by decide +kernel
theorem dX4_copy_175 : decode cX4_copy 175 = .ok (.aload_n 0, 1) := by decide +kernel
theorem dX4_copy_176 : decode cX4_copy 176 = .ok (.getfield 34, 3) := by decide +kernel
theorem dX4_copy_179 : decode cX4_copy 179 = .ok (.iload 6, 2) := by decide +kernel
theorem dX4_copy_181 : decode cX4_copy 181 = .ok (.iload 9, 2) := by decide +kernel
theorem dX4_copy_183 : decode cX4_copy 183 = .ok (.iadd, 1) := by decide +kernel
theorem dX4_copy_184 : decode cX4_copy 184 = .ok (.iaload, 1) := by decide +kernel
theorem dX4_copy_185 : decode cX4_copy 185 = .ok (.iastore, 1) := by decide +kernel
theorem dX4_copy_186 : decode cX4_copy 186 = .ok (.iinc 8 1, 3) := by decide +kernel
theorem dX4_copy_189 : decode cX4_copy 189 = .ok (.goto (-51), 3) := by decide +kernel
theorem dX4_copy_192 : decode cX4_copy 192 = .ok (.iload 5, 2) := by decide +kernel
theorem dX4_copy_194 : decode cX4_copy 194 = .ok (.ireturn, 1) := by decide +kernel
theorem dX4_wants_0 : decode cX4_wants 0 = .ok (.iload_n 1, 1) := by decide +kernel
theorem dX4_wants_1 : decode cX4_wants 1 = .ok (.invokestatic 274, 3) := by decide +kernel
theorem dX4_wants_4 : decode cX4_wants 4 = .ok (.ifCond .ne 8, 3) := by decide +kernel
theorem dX4_wants_7 : decode cX4_wants 7 = .ok (.ldc 40, 2) := by decide +kernel
theorem dX4_wants_9 : decode cX4_wants 9 = .ok (.goto 19, 3) := by decide +kernel
theorem dX4_wants_12 : decode cX4_wants 12 = .ok (.aload_n 0, 1) := by decide +kernel
theorem dX4_wants_13 : decode cX4_wants 13 = .ok (.getfield 28, 3) := by decide +kernel
theorem dX4_wants_16 : decode cX4_wants 16 = .ok (.iload_n 1, 1) := by decide +kernel
theorem dX4_wants_17 : decode cX4_wants 17 = .ok (.iaload, 1) := by decide +kernel
theorem dX4_wants_18 : decode cX4_wants 18 = .ok (.ifCond .ge 9, 3) := by decide +kernel
theorem dX4_wants_21 : decode cX4_wants 21 = .ok (.ldc_w 269, 3) := by decide +kernel
theorem dX4_wants_24 : decode cX4_wants 24 = .ok (.goto 4, 3) := by decide +kernel
theorem dX4_wants_27 : decode cX4_wants 27 = .ok (.iconst 0, 1) := by decide +kernel
theorem dX4_wants_28 : decode cX4_wants 28 = .ok (.ireturn, 1) := by decide +kernel
theorem dX4_load_0 : decode cX4_load 0 = .ok (.aload_n 0, 1) := by decide +kernel
theorem dX4_load_1 : decode cX4_load 1 = .ok (.iload_n 1, 1) := by decide +kernel
theorem dX4_load_2 : decode cX4_load 2 = .ok (.invokevirtual 171, 3) := by decide +kernel
theorem dX4_load_5 : decode cX4_load 5 = .ok (.ifCond .eq 13, 3) := by decide +kernel
theorem dX4_load_8 : decode cX4_load 8 = .ok (.aload_n 0, 1) := by decide +kernel
theorem dX4_load_9 : decode cX4_load 9 = .ok (.aload_n 0, 1) := by decide +kernel
theorem dX4_load_10 : decode cX4_load 10 = .ok (.iload_n 1, 1) := by decide +kernel
theorem dX4_load_11 : decode cX4_load 11 = .ok (.invokevirtual 171, 3) := by decide +kernel
theorem dX4_load_14 : decode cX4_load 14 = .ok (.invokevirtual 48, 3) := by decide +kernel
theorem dX4_load_17 : decode cX4_load 17 = .ok (.ireturn, 1) := by decide +kernel
theorem dX4_load_18 : decode cX4_load 18 = .ok (.iconst 0, 1) := by decide +kernel
theorem dX4_load_19 : decode cX4_load 19 = .ok (.istore_n 2, 1) := by decide +kernel
theorem dX4_load_20 : decode cX4_load 20 = .ok (.iload_n 2, 1) := by decide +kernel
theorem dX4_load_21 : decode cX4_load 21 = .ok (.aload_n 0, 1) := by decide +kernel
theorem dX4_load_22 : decode cX4_load 22 = .ok (.getfield 31, 3) := by decide +kernel
theorem dX4_load_25 : decode cX4_load 25 = .ok (.iload_n 1, 1) := by decide +kernel
theorem dX4_load_26 : decode cX4_load 26 = .ok (.iaload, 1) := by decide +kernel
theorem dX4_load_27 : decode cX4_load 27 = .ok (.if_icmp .ge 56, 3) := by decide +kernel
theorem dX4_load_30 : decode cX4_load 30 = .ok (.iload_n 2, 1) := by decide +kernel
theorem dX4_load_31 : decode cX4_load 31 = .ok (.bipush 9, 2) := by decide +kernel
theorem dX4_load_33 : decode cX4_load 33 = .ok (.if_icmp .ge 50, 3) := by decide +kernel
theorem dX4_load_36 : decode cX4_load 36 = .ok (.aload_n 0, 1) := by decide +kernel
theorem dX4_load_37 : decode cX4_load 37 = .ok (.getfield 34, 3) := by decide +kernel
theorem dX4_load_40 : decode cX4_load 40 = .ok (.bipush 40, 2) := by decide +kernel
theorem dX4_load_42 : decode cX4_load 42 = .ok (.iload_n 1, 1) := by decide +kernel
theorem dX4_load_43 : decode cX4_load 43 = .ok (.imul, 1) := by decide +kernel
theorem dX4_load_44 : decode cX4_load 44 = .ok (.iload_n 2, 1) := by decide +kernel
theorem dX4_load_45 : decode cX4_load 45 = .ok (.iadd, 1) := by decide +kernel
theorem dX4_load_46 : decode cX4_load 46 = .ok (.iaload, 1) := by decide +kernel
theorem dX4_load_47 : decode cX4_load 47 = .ok (.i2l, 1) := by decide +kernel
theorem dX4_load_48 : decode cX4_load 48 = .ok (.lconst 0, 1) := by decide +kernel
theorem dX4_load_49 : decode cX4_load 49 = .ok (.ldc2_w 56, 3) := by decide +kernel
theorem dX4_load_52 : decode cX4_load 52 = .ok (.invokestatic 43, 3) := by decide +kernel
theorem dX4_load_55 : decode cX4_load 55 = .ok (.ifCond .eq 28, 3) := by decide +kernel
theorem dX4_load_58 : decode cX4_load 58 = .ok (.aload_n 0, 1) := by decide +kernel
theorem dX4_load_59 : decode cX4_load 59 = .ok (.getfield 7, 3) := by decide +kernel
theorem dX4_load_62 : decode cX4_load 62 = .ok (.iconst 4, 1) := by decide +kernel
theorem dX4_load_63 : decode cX4_load 63 = .ok (.iload_n 2, 1) := by decide +kernel
theorem dX4_load_64 : decode cX4_load 64 = .ok (.iadd, 1) := by decide +kernel
theorem dX4_load_65 : decode cX4_load 65 = .ok (.aload_n 0, 1) := by decide +kernel
theorem dX4_load_66 : decode cX4_load 66 = .ok (.getfield 34, 3) := by decide +kernel
theorem dX4_load_69 : decode cX4_load 69 = .ok (.bipush 40, 2) := by decide +kernel
theorem dX4_load_71 : decode cX4_load 71 = .ok (.iload_n 1, 1) := by decide +kernel
theorem dX4_load_72 : decode cX4_load 72 = .ok (.imul, 1) := by decide +kernel
theorem dX4_load_73 : decode cX4_load 73 = .ok (.iload_n 2, 1) := by decide +kernel
theorem dX4_load_74 : decode cX4_load 74 = .ok (.iadd, 1) := by decide +kernel
theorem dX4_load_75 : decode cX4_load 75 = .ok (.iaload, 1) := by decide +kernel
theorem dX4_load_76 : decode cX4_load 76 = .ok (.iastore, 1) := by decide +kernel
theorem dX4_load_77 : decode cX4_load 77 = .ok (.iinc 2 1, 3) := by decide +kernel
theorem dX4_load_80 : decode cX4_load 80 = .ok (.goto (-60), 3) := by decide +kernel
theorem dX4_load_83 : decode cX4_load 83 = .ok (.iload_n 2, 1) := by decide +kernel
theorem dX4_load_84 : decode cX4_load 84 = .ok (.ireturn, 1) := by decide +kernel
theorem dX4_judge_0 : decode cX4_judge 0 = .ok (.aload_n 0, 1) := by decide +kernel
theorem dX4_judge_1 : decode cX4_judge 1 = .ok (.iload_n 1, 1) := by decide +kernel
theorem dX4_judge_2 : decode cX4_judge 2 = .ok (.invokevirtual 171, 3) := by decide +kernel
theorem dX4_judge_5 : decode cX4_judge 5 = .ok (.ifCond .eq 13, 3) := by decide +kernel
theorem dX4_judge_8 : decode cX4_judge 8 = .ok (.aload_n 0, 1) := by decide +kernel
theorem dX4_judge_9 : decode cX4_judge 9 = .ok (.aload_n 0, 1) := by decide +kernel
theorem dX4_judge_10 : decode cX4_judge 10 = .ok (.iload_n 1, 1) := by decide +kernel
theorem dX4_judge_11 : decode cX4_judge 11 = .ok (.invokevirtual 171, 3) := by decide +kernel
theorem dX4_judge_14 : decode cX4_judge 14 = .ok (.invokevirtual 48, 3) := by decide +kernel
theorem dX4_judge_17 : decode cX4_judge 17 = .ok (.ireturn, 1) := by decide +kernel
theorem dX4_judge_18 : decode cX4_judge 18 = .ok (.iconst 0, 1) := by decide +kernel
theorem dX4_judge_19 : decode cX4_judge 19 = .ok (.istore_n 2, 1) := by decide +kernel
theorem dX4_judge_20 : decode cX4_judge 20 = .ok (.iload_n 2, 1) := by decide +kernel
theorem dX4_judge_21 : decode cX4_judge 21 = .ok (.aload_n 0, 1) := by decide +kernel
theorem dX4_judge_22 : decode cX4_judge 22 = .ok (.getfield 31, 3) := by decide +kernel
theorem dX4_judge_25 : decode cX4_judge 25 = .ok (.iload_n 1, 1) := by decide +kernel
theorem dX4_judge_26 : decode cX4_judge 26 = .ok (.iaload, 1) := by decide +kernel
theorem dX4_judge_27 : decode cX4_judge 27 = .ok (.if_icmp .ge 38, 3) := by decide +kernel
theorem dX4_judge_30 : decode cX4_judge 30 = .ok (.iload_n 2, 1) := by decide +kernel
theorem dX4_judge_31 : decode cX4_judge 31 = .ok (.bipush 8, 2) := by decide +kernel
theorem dX4_judge_33 : decode cX4_judge 33 = .ok (.if_icmp .ge 32, 3) := by decide +kernel
theorem dX4_judge_36 : decode cX4_judge 36 = .ok (.aload_n 0, 1) := by decide +kernel
theorem dX4_judge_37 : decode cX4_judge 37 = .ok (.getfield 34, 3) := by decide +kernel
theorem dX4_judge_40 : decode cX4_judge 40 = .ok (.bipush 40, 2) := by decide +kernel
theorem dX4_judge_42 : decode cX4_judge 42 = .ok (.iload_n 1, 1) := by decide +kernel
theorem dX4_judge_43 : decode cX4_judge 43 = .ok (.imul, 1) := by decide +kernel
theorem dX4_judge_44 : decode cX4_judge 44 = .ok (.iload_n 2, 1) := by decide +kernel
theorem dX4_judge_45 : decode cX4_judge 45 = .ok (.iadd, 1) := by decide +kernel
theorem dX4_judge_46 : decode cX4_judge 46 = .ok (.iaload, 1) := by decide +kernel
theorem dX4_judge_47 : decode cX4_judge 47 = .ok (.aload_n 0, 1) := by decide +kernel
theorem dX4_judge_48 : decode cX4_judge 48 = .ok (.getfield 7, 3) := by decide +kernel
theorem dX4_judge_51 : decode cX4_judge 51 = .ok (.bipush 13, 2) := by decide +kernel
theorem dX4_judge_53 : decode cX4_judge 53 = .ok (.iload_n 2, 1) := by decide +kernel
theorem dX4_judge_54 : decode cX4_judge 54 = .ok (.iadd, 1) := by decide +kernel
theorem dX4_judge_55 : decode cX4_judge 55 = .ok (.iaload, 1) := by decide +kernel
theorem dX4_judge_56 : decode cX4_judge 56 = .ok (.if_icmp .ne 9, 3) := by decide +kernel
theorem dX4_judge_59 : decode cX4_judge 59 = .ok (.iinc 2 1, 3) := by decide +kernel
theorem dX4_judge_62 : decode cX4_judge 62 = .ok (.goto (-42), 3) := by decide +kernel
theorem dX4_judge_65 : decode cX4_judge 65 = .ok (.iload_n 2, 1) := by decide +kernel
theorem dX4_judge_66 : decode cX4_judge 66 = .ok (.aload_n 0, 1) := by decide +kernel
theorem dX4_judge_67 : decode cX4_judge 67 = .ok (.getfield 31, 3) := by decide +kernel
theorem dX4_judge_70 : decode cX4_judge 70 = .ok (.iload_n 1, 1) := by decide +kernel
theorem dX4_judge_71 : decode cX4_judge 71 = .ok (.iaload, 1) := by decide +kernel
theorem dX4_judge_72 : decode cX4_judge 72 = .ok (.if_icmp .ge 9, 3) := by decide +kernel
theorem dX4_judge_75 : decode cX4_judge 75 = .ok (.iconst 1, 1) := by decide +kernel
theorem dX4_judge_76 : decode cX4_judge 76 = .ok (.iload_n 2, 1) := by decide +kernel
theorem dX4_judge_77 : decode cX4_judge 77 = .ok (.iadd, 1) := by decide +kernel
theorem dX4_judge_78 : decode cX4_judge 78 = .ok (.goto 4, 3) := by decide +kernel
theorem dX4_judge_81 : decode cX4_judge 81 = .ok (.iconst 0, 1) := by decide +kernel
theorem dX4_judge_82 : decode cX4_judge 82 = .ok (.ireturn, 1) := by decide +kernel
theorem dX4_image_0 : decode cX4_image 0 = .ok (.aload_n 0, 1) := by decide +kernel
theorem dX4_image_1 : decode cX4_image 1 = .ok (.getfield 7, 3) := by decide +kernel
theorem dX4_image_4 : decode cX4_image 4 = .ok (.aload_n 0, 1) := by decide +kernel
theorem dX4_image_5 : decode cX4_image 5 = .ok (.getfield 13, 3) := by decide +kernel
theorem dX4_image_8 : decode cX4_image 8 = .ok (.invokestatic 141, 3) := by decide +kernel
theorem dX4_image_11 : decode cX4_image 11 = .ok (.aload_n 0, 1) := by decide +kernel
theorem dX4_image_12 : decode cX4_image 12 = .ok (.iconst 1, 1) := by decide +kernel
theorem dX4_image_13 : decode cX4_image 13 = .ok (.putfield 278, 3) := by decide +kernel
theorem dX4_image_16 : decode cX4_image 16 = .ok (.iconst 1, 1) := by decide +kernel
theorem dX4_image_17 : decode cX4_image 17 = .ok (.ireturn, 1) := by decide +kernel
theorem dX4_undo_0 : decode cX4_undo 0 = .ok (.aload_n 0, 1) := by decide +kernel
theorem dX4_undo_1 : decode cX4_undo 1 = .ok (.getfield 278, 3) := by decide +kernel
theorem dX4_undo_4 : decode cX4_undo 4 = .ok (.ifCond .ne 10, 3) := by decide +kernel
theorem dX4_undo_7 : decode cX4_undo 7 = .ok (.aload_n 0, 1) := by decide +kernel
theorem dX4_undo_8 : decode cX4_undo 8 = .ok (.ldc 47, 2) := by decide +kernel
theorem dX4_undo_10 : decode cX4_undo 10 = .ok (.invokevirtual 48, 3) := by decide +kernel
theorem dX4_undo_13 : decode cX4_undo 13 = .ok (.ireturn, 1) := by decide +kernel
theorem dX4_undo_14 : decode cX4_undo 14 = .ok (.aload_n 0, 1) := by decide +kernel
theorem dX4_undo_15 : decode cX4_undo 15 = .ok (.getfield 13, 3) := by decide +kernel
theorem dX4_undo_18 : decode cX4_undo 18 = .ok (.aload_n 0, 1) := by decide +kernel
theorem dX4_undo_19 : decode cX4_undo 19 = .ok (.getfield 7, 3) := by decide +kernel
theorem dX4_undo_22 : decode cX4_undo 22 = .ok (.invokestatic 141, 3) := by decide +kernel
theorem dX4_undo_25 : decode cX4_undo 25 = .ok (.aload_n 0, 1) := by decide +kernel
theorem dX4_undo_26 : decode cX4_undo 26 = .ok (.getfield 7, 3) := by decide +kernel
theorem dX4_undo_29 : decode cX4_undo 29 = .ok (.iconst 1, 1) := by decide +kernel
theorem dX4_undo_30 : decode cX4_undo 30 = .ok (.iaload, 1) := by decide +kernel
theorem dX4_undo_31 : decode cX4_undo 31 = .ok (.ireturn, 1) := by decide +kernel
theorem dX4_tear_0 : decode cX4_tear 0 = .ok (.aload_n 0, 1) := by decide +kernel
theorem dX4_tear_1 : decode cX4_tear 1 = .ok (.getfield 278, 3) := by decide +kernel
theorem dX4_tear_4 : decode cX4_tear 4 = .ok (.istore_n 1, 1) := by decide +kernel
theorem dX4_tear_5 : decode cX4_tear 5 = .ok (.aload_n 0, 1) := by decide +kernel
theorem dX4_tear_6 : decode cX4_tear 6 = .ok (.iconst 0, 1) := by decide +kernel
theorem dX4_tear_7 : decode cX4_tear 7 = .ok (.putfield 278, 3) := by decide +kernel
theorem dX4_tear_10 : decode cX4_tear 10 = .ok (.iload_n 1, 1) := by decide +kernel
theorem dX4_tear_11 : decode cX4_tear 11 = .ok (.ifCond .eq 7, 3) := by decide +kernel
theorem dX4_tear_14 : decode cX4_tear 14 = .ok (.iconst 1, 1) := by decide +kernel
theorem dX4_tear_15 : decode cX4_tear 15 = .ok (.goto 4, 3) := by decide +kernel
theorem dX4_tear_18 : decode cX4_tear 18 = .ok (.iconst 0, 1) := by decide +kernel
theorem dX4_tear_19 : decode cX4_tear 19 = .ok (.ireturn, 1) := by decide +kernel
theorem dX4_count_0 : decode cX4_count 0 = .ok (.iconst 0, 1) := by decide +kernel
theorem dX4_count_1 : decode cX4_count 1 = .ok (.istore_n 2, 1) := by decide +kernel
theorem dX4_count_2 : decode cX4_count 2 = .ok (.iload_n 1, 1) := by decide +kernel
theorem dX4_count_3 : decode cX4_count 3 = .ok (.tableswitch 125 0 7 #[45, 52, 59, 67, 72, 77, 82, 89], 45) := by decide +kernel
theorem dX4_count_48 : decode cX4_count 48 = .ok (.aload_n 0, 1) := by decide +kernel
theorem dX4_count_49 : decode cX4_count 49 = .ok (.getfield 7, 3) := by decide +kernel
theorem dX4_count_52 : decode cX4_count 52 = .ok (.iconst 1, 1) := by decide +kernel
theorem dX4_count_53 : decode cX4_count 53 = .ok (.iaload, 1) := by decide +kernel
theorem dX4_count_54 : decode cX4_count 54 = .ok (.ireturn, 1) := by decide +kernel
theorem dX4_count_55 : decode cX4_count 55 = .ok (.aload_n 0, 1) := by decide +kernel
theorem dX4_count_56 : decode cX4_count 56 = .ok (.getfield 7, 3) := by decide +kernel
theorem dX4_count_59 : decode cX4_count 59 = .ok (.iconst 0, 1) := by decide +kernel
theorem dX4_count_60 : decode cX4_count 60 = .ok (.iaload, 1) := by decide +kernel
theorem dX4_count_61 : decode cX4_count 61 = .ok (.ireturn, 1) := by decide +kernel
theorem dX4_count_62 : decode cX4_count 62 = .ok (.aload_n 0, 1) := by decide +kernel
theorem dX4_count_63 : decode cX4_count 63 = .ok (.invokevirtual 132, 3) := by decide +kernel
theorem dX4_count_66 : decode cX4_count 66 = .ok (.invokestatic 168, 3) := by decide +kernel
theorem dX4_count_69 : decode cX4_count 69 = .ok (.ireturn, 1) := by decide +kernel
theorem dX4_count_70 : decode cX4_count 70 = .ok (.aload_n 0, 1) := by decide +kernel
theorem dX4_count_71 : decode cX4_count 71 = .ok (.invokevirtual 129, 3) := by decide +kernel
theorem dX4_count_74 : decode cX4_count 74 = .ok (.ireturn, 1) := by decide +kernel
theorem dX4_count_75 : decode cX4_count 75 = .ok (.aload_n 0, 1) := by decide +kernel
theorem dX4_count_76 : decode cX4_count 76 = .ok (.invokevirtual 135, 3) := by decide +kernel
theorem dX4_count_79 : decode cX4_count 79 = .ok (.ireturn, 1) := by decide +kernel
theorem dX4_count_80 : decode cX4_count 80 = .ok (.aload_n 0, 1) := by decide +kernel
theorem dX4_count_81 : decode cX4_count 81 = .ok (.getfield 193, 3) := by decide +kernel
theorem dX4_count_84 : decode cX4_count 84 = .ok (.ireturn, 1) := by decide +kernel
theorem dX4_count_85 : decode cX4_count 85 = .ok (.aload_n 0, 1) := by decide +kernel
theorem dX4_count_86 : decode cX4_count 86 = .ok (.getfield 7, 3) := by decide +kernel
theorem dX4_count_89 : decode cX4_count 89 = .ok (.iconst 2, 1) := by decide +kernel
theorem dX4_count_90 : decode cX4_count 90 = .ok (.iaload, 1) := by decide +kernel
theorem dX4_count_91 : decode cX4_count 91 = .ok (.ireturn, 1) := by decide +kernel
theorem dX4_count_92 : decode cX4_count 92 = .ok (.iconst 0, 1) := by decide +kernel
theorem dX4_count_93 : decode cX4_count 93 = .ok (.istore_n 3, 1) := by decide +kernel
theorem dX4_count_94 : decode cX4_count 94 = .ok (.iload_n 3, 1) := by decide +kernel
theorem dX4_count_95 : decode cX4_count 95 = .ok (.bipush 10, 2) := by decide +kernel
theorem dX4_count_97 : decode cX4_count 97 = .ok (.if_icmp .ge 29, 3) := by decide +kernel
theorem dX4_count_100 : decode cX4_count 100 = .ok (.iload_n 2, 1) := by decide +kernel
theorem dX4_count_101 : decode cX4_count 101 = .ok (.aload_n 0, 1) := by decide +kernel
theorem dX4_count_102 : decode cX4_count 102 = .ok (.getfield 7, 3) := by decide +kernel
theorem dX4_count_105 : decode cX4_count 105 = .ok (.bipush 61, 2) := by decide +kernel
theorem dX4_count_107 : decode cX4_count 107 = .ok (.iload_n 3, 1) := by decide +kernel
theorem dX4_count_108 : decode cX4_count 108 = .ok (.iadd, 1) := by decide +kernel
theorem dX4_count_109 : decode cX4_count 109 = .ok (.iaload, 1) := by decide +kernel
theorem dX4_count_110 : decode cX4_count 110 = .ok (.ifCond .ge 7, 3) := by decide +kernel
theorem dX4_count_113 : decode cX4_count 113 = .ok (.iconst 0, 1) := by decide +kernel
theorem dX4_count_114 : decode cX4_count 114 = .ok (.goto 4, 3) := by decide +kernel
theorem dX4_count_117 : decode cX4_count 117 = .ok (.iconst 1, 1) := by decide +kernel
theorem dX4_count_118 : decode cX4_count 118 = .ok (.iadd, 1) := by decide +kernel
theorem dX4_count_119 : decode cX4_count 119 = .ok (.istore_n 2, 1) := by decide +kernel
theorem dX4_count_120 : decode cX4_count 120 = .ok (.iinc 3 1, 3) := by decide +kernel
theorem dX4_count_123 : decode cX4_count 123 = .ok (.goto (-29), 3) := by decide +kernel
theorem dX4_count_126 : decode cX4_count 126 = .ok (.iload_n 2, 1) := by decide +kernel
theorem dX4_count_127 : decode cX4_count 127 = .ok (.ireturn, 1) := by decide +kernel
theorem dX4_count_128 : decode cX4_count 128 = .ok (.aload_n 0, 1) := by decide +kernel
theorem dX4_count_129 : decode cX4_count 129 = .ok (.ldc 40, 2) := by decide +kernel
theorem dX4_count_131 : decode cX4_count 131 = .ok (.invokevirtual 48, 3) := by decide +kernel
theorem dX4_count_134 : decode cX4_count 134 = .ok (.ireturn, 1) := by decide +kernel
theorem dX4_status_0 : decode cX4_status 0 = .ok (.iload_n 1, 1) := by decide +kernel
theorem dX4_status_1 : decode cX4_status 1 = .ok (.i2l, 1) := by decide +kernel
theorem dX4_status_2 : decode cX4_status 2 = .ok (.ldc2_w 282, 3) := by decide +kernel
theorem dX4_status_5 : decode cX4_status 5 = .ok (.ldc2_w 79, 3) := by decide +kernel
theorem dX4_status_8 : decode cX4_status 8 = .ok (.invokestatic 43, 3) := by decide +kernel
theorem dX4_status_11 : decode cX4_status 11 = .ok (.ifCond .eq 14, 3) := by decide +kernel
theorem dX4_status_14 : decode cX4_status 14 = .ok (.aload_n 0, 1) := by decide +kernel
theorem dX4_status_15 : decode cX4_status 15 = .ok (.getfield 22, 3) := by decide +kernel
theorem dX4_status_18 : decode cX4_status 18 = .ok (.iload_n 1, 1) := by decide +kernel
theorem dX4_status_19 : decode cX4_status 19 = .ok (.iconst 1, 1) := by decide +kernel
theorem dX4_status_20 : decode cX4_status 20 = .ok (.iadd, 1) := by decide +kernel
theorem dX4_status_21 : decode cX4_status 21 = .ok (.iaload, 1) := by decide +kernel
theorem dX4_status_22 : decode cX4_status 22 = .ok (.goto 9, 3) := by decide +kernel
theorem dX4_status_25 : decode cX4_status 25 = .ok (.aload_n 0, 1) := by decide +kernel
theorem dX4_status_26 : decode cX4_status 26 = .ok (.ldc 40, 2) := by decide +kernel
theorem dX4_status_28 : decode cX4_status 28 = .ok (.invokevirtual 48, 3) := by decide +kernel
theorem dX4_status_31 : decode cX4_status 31 = .ok (.ireturn, 1) := by decide +kernel
end
section
theorem dL_law_0 : decode cL_law 0 = .ok (.new 7, 3) := by decide +kernel
theorem dL_law_3 : decode cL_law 3 = .ok (.dup, 1) := by decide +kernel
theorem dL_law_4 : decode cL_law 4 = .ok (.invokespecial 9, 3) := by decide +kernel
theorem dL_law_7 : decode cL_law 7 = .ok (.astore_n 1, 1) := by decide +kernel
theorem dL_law_8 : decode cL_law 8 = .ok (.new 10, 3) := by decide +kernel
theorem dL_law_11 : decode cL_law 11 = .ok (.dup, 1) := by decide +kernel
theorem dL_law_12 : decode cL_law 12 = .ok (.invokespecial 12, 3) := by decide +kernel
theorem dL_law_15 : decode cL_law 15 = .ok (.astore_n 2, 1) := by decide +kernel
theorem dL_law_16 : decode cL_law 16 = .ok (.iconst 0, 1) := by decide +kernel
theorem dL_law_17 : decode cL_law 17 = .ok (.istore_n 3, 1) := by decide +kernel
theorem dL_law_18 : decode cL_law 18 = .ok (.iload_n 3, 1) := by decide +kernel
theorem dL_law_19 : decode cL_law 19 = .ok (.aload_n 0, 1) := by decide +kernel
theorem dL_law_20 : decode cL_law 20 = .ok (.arraylength, 1) := by decide +kernel
theorem dL_law_21 : decode cL_law 21 = .ok (.bipush 6, 2) := by decide +kernel
theorem dL_law_23 : decode cL_law 23 = .ok (.isub, 1) := by decide +kernel
theorem dL_law_24 : decode cL_law 24 = .ok (.if_icmp .gt 1619, 3) := by decide +kernel
theorem dL_law_27 : decode cL_law 27 = .ok (.aload_n 0, 1) := by decide +kernel
theorem dL_law_28 : decode cL_law 28 = .ok (.iload_n 3, 1) := by decide +kernel
theorem dL_law_29 : decode cL_law 29 = .ok (.iaload, 1) := by decide +kernel
theorem dL_law_30 : decode cL_law 30 = .ok (.bipush 63, 2) := by decide +kernel
theorem dL_law_32 : decode cL_law 32 = .ok (.iand, 1) := by decide +kernel
theorem dL_law_33 : decode cL_law 33 = .ok (.tableswitch 1604 0 43 #[191, 224, 257, 290, 313, 336, 369, 402, 445, 488, 511, 534, 567, 600, 643, 676, 709, 742, 795, 848, 901, 944, 987, 1020, 1043, 1086, 1119, 1142, 1176, 1199, 1232, 1245, 1258, 1291, 1324, 1367, 1410, 1473, 1496, 1519, 1532, 1545, 1558, 1581], 191) := by decide +kernel
theorem dL_law_224 : decode cL_law 224 = .ok (.aload_n 1, 1) := by decide +kernel
theorem dL_law_225 : decode cL_law 225 = .ok (.aload_n 0, 1) := by decide +kernel
theorem dL_law_226 : decode cL_law 226 = .ok (.iload_n 3, 1) := by decide +kernel
theorem dL_law_227 : decode cL_law 227 = .ok (.iconst 1, 1) := by decide +kernel
theorem dL_law_228 : decode cL_law 228 = .ok (.iadd, 1) := by decide +kernel
theorem dL_law_229 : decode cL_law 229 = .ok (.iaload, 1) := by decide +kernel
theorem dL_law_230 : decode cL_law 230 = .ok (.aload_n 0, 1) := by decide +kernel
theorem dL_law_231 : decode cL_law 231 = .ok (.iload_n 3, 1) := by decide +kernel
theorem dL_law_232 : decode cL_law 232 = .ok (.iconst 2, 1) := by decide +kernel
theorem dL_law_233 : decode cL_law 233 = .ok (.iadd, 1) := by decide +kernel
theorem dL_law_234 : decode cL_law 234 = .ok (.iaload, 1) := by decide +kernel
theorem dL_law_235 : decode cL_law 235 = .ok (.invokevirtual 13, 3) := by decide +kernel
theorem dL_law_238 : decode cL_law 238 = .ok (.aload_n 2, 1) := by decide +kernel
theorem dL_law_239 : decode cL_law 239 = .ok (.aload_n 0, 1) := by decide +kernel
theorem dL_law_240 : decode cL_law 240 = .ok (.iload_n 3, 1) := by decide +kernel
theorem dL_law_241 : decode cL_law 241 = .ok (.iconst 1, 1) := by decide +kernel
theorem dL_law_242 : decode cL_law 242 = .ok (.iadd, 1) := by decide +kernel
theorem dL_law_243 : decode cL_law 243 = .ok (.iaload, 1) := by decide +kernel
theorem dL_law_244 : decode cL_law 244 = .ok (.aload_n 0, 1) := by decide +kernel
theorem dL_law_245 : decode cL_law 245 = .ok (.iload_n 3, 1) := by decide +kernel
theorem dL_law_246 : decode cL_law 246 = .ok (.iconst 2, 1) := by decide +kernel
theorem dL_law_247 : decode cL_law 247 = .ok (.iadd, 1) := by decide +kernel
theorem dL_law_248 : decode cL_law 248 = .ok (.iaload, 1) := by decide +kernel
theorem dL_law_249 : decode cL_law 249 = .ok (.invokevirtual 17, 3) := by decide +kernel
theorem dL_law_252 : decode cL_law 252 = .ok (.if_icmp .eq 1385, 3) := by decide +kernel
theorem dL_law_255 : decode cL_law 255 = .ok (.iconst 0, 1) := by decide +kernel
theorem dL_law_256 : decode cL_law 256 = .ok (.ireturn, 1) := by decide +kernel
theorem dL_law_257 : decode cL_law 257 = .ok (.aload_n 1, 1) := by decide +kernel
theorem dL_law_258 : decode cL_law 258 = .ok (.aload_n 0, 1) := by decide +kernel
theorem dL_law_259 : decode cL_law 259 = .ok (.iload_n 3, 1) := by decide +kernel
theorem dL_law_260 : decode cL_law 260 = .ok (.iconst 1, 1) := by decide +kernel
theorem dL_law_261 : decode cL_law 261 = .ok (.iadd, 1) := by decide +kernel
theorem dL_law_262 : decode cL_law 262 = .ok (.iaload, 1) := by decide +kernel
theorem dL_law_263 : decode cL_law 263 = .ok (.aload_n 0, 1) := by decide +kernel
theorem dL_law_264 : decode cL_law 264 = .ok (.iload_n 3, 1) := by decide +kernel
theorem dL_law_265 : decode cL_law 265 = .ok (.iconst 2, 1) := by decide +kernel
theorem dL_law_266 : decode cL_law 266 = .ok (.iadd, 1) := by decide +kernel
theorem dL_law_267 : decode cL_law 267 = .ok (.iaload, 1) := by decide +kernel
theorem dL_law_268 : decode cL_law 268 = .ok (.invokevirtual 18, 3) := by decide +kernel
theorem dL_law_271 : decode cL_law 271 = .ok (.aload_n 2, 1) := by decide +kernel
theorem dL_law_272 : decode cL_law 272 = .ok (.aload_n 0, 1) := by decide +kernel
theorem dL_law_273 : decode cL_law 273 = .ok (.iload_n 3, 1) := by decide +kernel
theorem dL_law_274 : decode cL_law 274 = .ok (.iconst 1, 1) := by decide +kernel
theorem dL_law_275 : decode cL_law 275 = .ok (.iadd, 1) := by decide +kernel
theorem dL_law_276 : decode cL_law 276 = .ok (.iaload, 1) := by decide +kernel
theorem dL_law_277 : decode cL_law 277 = .ok (.aload_n 0, 1) := by decide +kernel
theorem dL_law_278 : decode cL_law 278 = .ok (.iload_n 3, 1) := by decide +kernel
theorem dL_law_279 : decode cL_law 279 = .ok (.iconst 2, 1) := by decide +kernel
theorem dL_law_280 : decode cL_law 280 = .ok (.iadd, 1) := by decide +kernel
theorem dL_law_281 : decode cL_law 281 = .ok (.iaload, 1) := by decide +kernel
theorem dL_law_282 : decode cL_law 282 = .ok (.invokevirtual 21, 3) := by decide +kernel
theorem dL_law_285 : decode cL_law 285 = .ok (.if_icmp .eq 1352, 3) := by decide +kernel
theorem dL_law_288 : decode cL_law 288 = .ok (.iconst 0, 1) := by decide +kernel
theorem dL_law_289 : decode cL_law 289 = .ok (.ireturn, 1) := by decide +kernel
theorem dL_law_290 : decode cL_law 290 = .ok (.aload_n 1, 1) := by decide +kernel
theorem dL_law_291 : decode cL_law 291 = .ok (.aload_n 0, 1) := by decide +kernel
theorem dL_law_292 : decode cL_law 292 = .ok (.iload_n 3, 1) := by decide +kernel
theorem dL_law_293 : decode cL_law 293 = .ok (.iconst 1, 1) := by decide +kernel
theorem dL_law_294 : decode cL_law 294 = .ok (.iadd, 1) := by decide +kernel
theorem dL_law_295 : decode cL_law 295 = .ok (.iaload, 1) := by decide +kernel
theorem dL_law_296 : decode cL_law 296 = .ok (.aload_n 0, 1) := by decide +kernel
theorem dL_law_297 : decode cL_law 297 = .ok (.iload_n 3, 1) := by decide +kernel
theorem dL_law_298 : decode cL_law 298 = .ok (.iconst 2, 1) := by decide +kernel
theorem dL_law_299 : decode cL_law 299 = .ok (.iadd, 1) := by decide +kernel
theorem dL_law_300 : decode cL_law 300 = .ok (.iaload, 1) := by decide +kernel
theorem dL_law_301 : decode cL_law 301 = .ok (.invokevirtual 22, 3) := by decide +kernel
theorem dL_law_304 : decode cL_law 304 = .ok (.aload_n 2, 1) := by decide +kernel
theorem dL_law_305 : decode cL_law 305 = .ok (.aload_n 0, 1) := by decide +kernel
theorem dL_law_306 : decode cL_law 306 = .ok (.iload_n 3, 1) := by decide +kernel
theorem dL_law_307 : decode cL_law 307 = .ok (.iconst 1, 1) := by decide +kernel
theorem dL_law_308 : decode cL_law 308 = .ok (.iadd, 1) := by decide +kernel
theorem dL_law_309 : decode cL_law 309 = .ok (.iaload, 1) := by decide +kernel
theorem dL_law_310 : decode cL_law 310 = .ok (.aload_n 0, 1) := by decide +kernel
theorem dL_law_311 : decode cL_law 311 = .ok (.iload_n 3, 1) := by decide +kernel
theorem dL_law_312 : decode cL_law 312 = .ok (.iconst 2, 1) := by decide +kernel
theorem dL_law_313 : decode cL_law 313 = .ok (.iadd, 1) := by decide +kernel
theorem dL_law_314 : decode cL_law 314 = .ok (.iaload, 1) := by decide +kernel
theorem dL_law_315 : decode cL_law 315 = .ok (.invokevirtual 25, 3) := by decide +kernel
theorem dL_law_318 : decode cL_law 318 = .ok (.if_icmp .eq 1319, 3) := by decide +kernel
theorem dL_law_321 : decode cL_law 321 = .ok (.iconst 0, 1) := by decide +kernel
theorem dL_law_322 : decode cL_law 322 = .ok (.ireturn, 1) := by decide +kernel
theorem dL_law_323 : decode cL_law 323 = .ok (.aload_n 1, 1) := by decide +kernel
theorem dL_law_324 : decode cL_law 324 = .ok (.aload_n 0, 1) := by decide +kernel
theorem dL_law_325 : decode cL_law 325 = .ok (.iload_n 3, 1) := by decide +kernel
theorem dL_law_326 : decode cL_law 326 = .ok (.iconst 1, 1) := by decide +kernel
theorem dL_law_327 : decode cL_law 327 = .ok (.iadd, 1) := by decide +kernel
theorem dL_law_328 : decode cL_law 328 = .ok (.iaload, 1) := by decide +kernel
theorem dL_law_329 : decode cL_law 329 = .ok (.invokevirtual 26, 3) := by decide +kernel
theorem dL_law_332 : decode cL_law 332 = .ok (.aload_n 2, 1) := by decide +kernel
theorem dL_law_333 : decode cL_law 333 = .ok (.aload_n 0, 1) := by decide +kernel
theorem dL_law_334 : decode cL_law 334 = .ok (.iload_n 3, 1) := by decide +kernel
theorem dL_law_335 : decode cL_law 335 = .ok (.iconst 1, 1) := by decide +kernel
theorem dL_law_336 : decode cL_law 336 = .ok (.iadd, 1) := by decide +kernel
theorem dL_law_337 : decode cL_law 337 = .ok (.iaload, 1) := by decide +kernel
theorem dL_law_338 : decode cL_law 338 = .ok (.invokevirtual 30, 3) := by decide +kernel
theorem dL_law_341 : decode cL_law 341 = .ok (.if_icmp .eq 1296, 3) := by decide +kernel
theorem dL_law_344 : decode cL_law 344 = .ok (.iconst 0, 1) := by decide +kernel
theorem dL_law_345 : decode cL_law 345 = .ok (.ireturn, 1) := by decide +kernel
theorem dL_law_346 : decode cL_law 346 = .ok (.aload_n 1, 1) := by decide +kernel
theorem dL_law_347 : decode cL_law 347 = .ok (.aload_n 0, 1) := by decide +kernel
theorem dL_law_348 : decode cL_law 348 = .ok (.iload_n 3, 1) := by decide +kernel
theorem dL_law_349 : decode cL_law 349 = .ok (.iconst 1, 1) := by decide +kernel
theorem dL_law_350 : decode cL_law 350 = .ok (.iadd, 1) := by decide +kernel
theorem dL_law_351 : decode cL_law 351 = .ok (.iaload, 1) := by decide +kernel
theorem dL_law_352 : decode cL_law 352 = .ok (.invokevirtual 31, 3) := by decide +kernel
theorem dL_law_355 : decode cL_law 355 = .ok (.aload_n 2, 1) := by decide +kernel
theorem dL_law_356 : decode cL_law 356 = .ok (.aload_n 0, 1) := by decide +kernel
theorem dL_law_357 : decode cL_law 357 = .ok (.iload_n 3, 1) := by decide +kernel
theorem dL_law_358 : decode cL_law 358 = .ok (.iconst 1, 1) := by decide +kernel
theorem dL_law_359 : decode cL_law 359 = .ok (.iadd, 1) := by decide +kernel
theorem dL_law_360 : decode cL_law 360 = .ok (.iaload, 1) := by decide +kernel
theorem dL_law_361 : decode cL_law 361 = .ok (.invokevirtual 34, 3) := by decide +kernel
theorem dL_law_364 : decode cL_law 364 = .ok (.if_icmp .eq 1273, 3) := by decide +kernel
theorem dL_law_367 : decode cL_law 367 = .ok (.iconst 0, 1) := by decide +kernel
theorem dL_law_368 : decode cL_law 368 = .ok (.ireturn, 1) := by decide +kernel
theorem dL_law_369 : decode cL_law 369 = .ok (.aload_n 1, 1) := by decide +kernel
theorem dL_law_370 : decode cL_law 370 = .ok (.aload_n 0, 1) := by decide +kernel
theorem dL_law_371 : decode cL_law 371 = .ok (.iload_n 3, 1) := by decide +kernel
theorem dL_law_372 : decode cL_law 372 = .ok (.iconst 1, 1) := by decide +kernel
theorem dL_law_373 : decode cL_law 373 = .ok (.iadd, 1) := by decide +kernel
theorem dL_law_374 : decode cL_law 374 = .ok (.iaload, 1) := by decide +kernel
theorem dL_law_375 : decode cL_law 375 = .ok (.aload_n 0, 1) := by decide +kernel
theorem dL_law_376 : decode cL_law 376 = .ok (.iload_n 3, 1) := by decide +kernel
theorem dL_law_377 : decode cL_law 377 = .ok (.iconst 2, 1) := by decide +kernel
theorem dL_law_378 : decode cL_law 378 = .ok (.iadd, 1) := by decide +kernel
theorem dL_law_379 : decode cL_law 379 = .ok (.iaload, 1) := by decide +kernel
theorem dL_law_380 : decode cL_law 380 = .ok (.invokevirtual 35, 3) := by decide +kernel
theorem dL_law_383 : decode cL_law 383 = .ok (.aload_n 2, 1) := by decide +kernel
theorem dL_law_384 : decode cL_law 384 = .ok (.aload_n 0, 1) := by decide +kernel
theorem dL_law_385 : decode cL_law 385 = .ok (.iload_n 3, 1) := by decide +kernel
theorem dL_law_386 : decode cL_law 386 = .ok (.iconst 1, 1) := by decide +kernel
theorem dL_law_387 : decode cL_law 387 = .ok (.iadd, 1) := by decide +kernel
theorem dL_law_388 : decode cL_law 388 = .ok (.iaload, 1) := by decide +kernel
theorem dL_law_389 : decode cL_law 389 = .ok (.aload_n 0, 1) := by decide +kernel
theorem dL_law_390 : decode cL_law 390 = .ok (.iload_n 3, 1) := by decide +kernel
theorem dL_law_391 : decode cL_law 391 = .ok (.iconst 2, 1) := by decide +kernel
theorem dL_law_392 : decode cL_law 392 = .ok (.iadd, 1) := by decide +kernel
theorem dL_law_393 : decode cL_law 393 = .ok (.iaload, 1) := by decide +kernel
theorem dL_law_394 : decode cL_law 394 = .ok (.invokevirtual 38, 3) := by decide +kernel
theorem dL_law_397 : decode cL_law 397 = .ok (.if_icmp .eq 1240, 3) := by decide +kernel
theorem dL_law_400 : decode cL_law 400 = .ok (.iconst 0, 1) := by decide +kernel
theorem dL_law_401 : decode cL_law 401 = .ok (.ireturn, 1) := by decide +kernel
theorem dL_law_402 : decode cL_law 402 = .ok (.aload_n 1, 1) := by decide +kernel
theorem dL_law_403 : decode cL_law 403 = .ok (.aload_n 0, 1) := by decide +kernel
theorem dL_law_404 : decode cL_law 404 = .ok (.iload_n 3, 1) := by decide +kernel
theorem dL_law_405 : decode cL_law 405 = .ok (.iconst 1, 1) := by decide +kernel
theorem dL_law_406 : decode cL_law 406 = .ok (.iadd, 1) := by decide +kernel
theorem dL_law_407 : decode cL_law 407 = .ok (.iaload, 1) := by decide +kernel
theorem dL_law_408 : decode cL_law 408 = .ok (.aload_n 0, 1) := by decide +kernel
theorem dL_law_409 : decode cL_law 409 = .ok (.iload_n 3, 1) := by decide +kernel
theorem dL_law_410 : decode cL_law 410 = .ok (.iconst 2, 1) := by decide +kernel
theorem dL_law_411 : decode cL_law 411 = .ok (.iadd, 1) := by decide +kernel
theorem dL_law_412 : decode cL_law 412 = .ok (.iaload, 1) := by decide +kernel
theorem dL_law_413 : decode cL_law 413 = .ok (.invokevirtual 39, 3) := by decide +kernel
theorem dL_law_416 : decode cL_law 416 = .ok (.aload_n 2, 1) := by decide +kernel
theorem dL_law_417 : decode cL_law 417 = .ok (.aload_n 0, 1) := by decide +kernel
theorem dL_law_418 : decode cL_law 418 = .ok (.iload_n 3, 1) := by decide +kernel
theorem dL_law_419 : decode cL_law 419 = .ok (.iconst 1, 1) := by decide +kernel
theorem dL_law_420 : decode cL_law 420 = .ok (.iadd, 1) := by decide +kernel
theorem dL_law_421 : decode cL_law 421 = .ok (.iaload, 1) := by decide +kernel
theorem dL_law_422 : decode cL_law 422 = .ok (.aload_n 0, 1) := by decide +kernel
theorem dL_law_423 : decode cL_law 423 = .ok (.iload_n 3, 1) := by decide +kernel
theorem dL_law_424 : decode cL_law 424 = .ok (.iconst 2, 1) := by decide +kernel
theorem dL_law_425 : decode cL_law 425 = .ok (.iadd, 1) := by decide +kernel
theorem dL_law_426 : decode cL_law 426 = .ok (.iaload, 1) := by decide +kernel
theorem dL_law_427 : decode cL_law 427 = .ok (.invokevirtual 42, 3) := by decide +kernel
theorem dL_law_430 : decode cL_law 430 = .ok (.if_icmp .eq 1207, 3) := by decide +kernel
theorem dL_law_433 : decode cL_law 433 = .ok (.iconst 0, 1) := by decide +kernel
theorem dL_law_434 : decode cL_law 434 = .ok (.ireturn, 1) := by decide +kernel
theorem dL_law_435 : decode cL_law 435 = .ok (.aload_n 1, 1) := by decide +kernel
theorem dL_law_436 : decode cL_law 436 = .ok (.aload_n 0, 1) := by decide +kernel
theorem dL_law_437 : decode cL_law 437 = .ok (.iload_n 3, 1) := by decide +kernel
theorem dL_law_438 : decode cL_law 438 = .ok (.iconst 1, 1) := by decide +kernel
theorem dL_law_439 : decode cL_law 439 = .ok (.iadd, 1) := by decide +kernel
theorem dL_law_440 : decode cL_law 440 = .ok (.iaload, 1) := by decide +kernel
theorem dL_law_441 : decode cL_law 441 = .ok (.aload_n 0, 1) := by decide +kernel
theorem dL_law_442 : decode cL_law 442 = .ok (.iload_n 3, 1) := by decide +kernel
theorem dL_law_443 : decode cL_law 443 = .ok (.iconst 2, 1) := by decide +kernel
theorem dL_law_444 : decode cL_law 444 = .ok (.iadd, 1) := by decide +kernel
theorem dL_law_445 : decode cL_law 445 = .ok (.iaload, 1) := by decide +kernel
theorem dL_law_446 : decode cL_law 446 = .ok (.aload_n 0, 1) := by decide +kernel
theorem dL_law_447 : decode cL_law 447 = .ok (.iload_n 3, 1) := by decide +kernel
theorem dL_law_448 : decode cL_law 448 = .ok (.iconst 3, 1) := by decide +kernel
theorem dL_law_449 : decode cL_law 449 = .ok (.iadd, 1) := by decide +kernel
theorem dL_law_450 : decode cL_law 450 = .ok (.iaload, 1) := by decide +kernel
theorem dL_law_451 : decode cL_law 451 = .ok (.invokevirtual 43, 3) := by decide +kernel
theorem dL_law_454 : decode cL_law 454 = .ok (.aload_n 2, 1) := by decide +kernel
theorem dL_law_455 : decode cL_law 455 = .ok (.aload_n 0, 1) := by decide +kernel
theorem dL_law_456 : decode cL_law 456 = .ok (.iload_n 3, 1) := by decide +kernel
theorem dL_law_457 : decode cL_law 457 = .ok (.iconst 1, 1) := by decide +kernel
theorem dL_law_458 : decode cL_law 458 = .ok (.iadd, 1) := by decide +kernel
theorem dL_law_459 : decode cL_law 459 = .ok (.iaload, 1) := by decide +kernel
theorem dL_law_460 : decode cL_law 460 = .ok (.aload_n 0, 1) := by decide +kernel
theorem dL_law_461 : decode cL_law 461 = .ok (.iload_n 3, 1) := by decide +kernel
theorem dL_law_462 : decode cL_law 462 = .ok (.iconst 2, 1) := by decide +kernel
theorem dL_law_463 : decode cL_law 463 = .ok (.iadd, 1) := by decide +kernel
theorem dL_law_464 : decode cL_law 464 = .ok (.iaload, 1) := by decide +kernel
theorem dL_law_465 : decode cL_law 465 = .ok (.aload_n 0, 1) := by decide +kernel
theorem dL_law_466 : decode cL_law 466 = .ok (.iload_n 3, 1) := by decide +kernel
theorem dL_law_467 : decode cL_law 467 = .ok (.iconst 3, 1) := by decide +kernel
theorem dL_law_468 : decode cL_law 468 = .ok (.iadd, 1) := by decide +kernel
theorem dL_law_469 : decode cL_law 469 = .ok (.iaload, 1) := by decide +kernel
theorem dL_law_470 : decode cL_law 470 = .ok (.invokevirtual 47, 3) := by decide +kernel
theorem dL_law_473 : decode cL_law 473 = .ok (.if_icmp .eq 1164, 3) := by decide +kernel
theorem dL_law_476 : decode cL_law 476 = .ok (.iconst 0, 1) := by decide +kernel
theorem dL_law_477 : decode cL_law 477 = .ok (.ireturn, 1) := by decide +kernel
theorem dL_law_478 : decode cL_law 478 = .ok (.aload_n 1, 1) := by decide +kernel
theorem dL_law_479 : decode cL_law 479 = .ok (.aload_n 0, 1) := by decide +kernel
theorem dL_law_480 : decode cL_law 480 = .ok (.iload_n 3, 1) := by decide +kernel
theorem dL_law_481 : decode cL_law 481 = .ok (.iconst 1, 1) := by decide +kernel
theorem dL_law_482 : decode cL_law 482 = .ok (.iadd, 1) := by decide +kernel
theorem dL_law_483 : decode cL_law 483 = .ok (.iaload, 1) := by decide +kernel
theorem dL_law_484 : decode cL_law 484 = .ok (.aload_n 0, 1) := by decide +kernel
theorem dL_law_485 : decode cL_law 485 = .ok (.iload_n 3, 1) := by decide +kernel
theorem dL_law_486 : decode cL_law 486 = .ok (.iconst 2, 1) := by decide +kernel
theorem dL_law_487 : decode cL_law 487 = .ok (.iadd, 1) := by decide +kernel
theorem dL_law_488 : decode cL_law 488 = .ok (.iaload, 1) := by decide +kernel
theorem dL_law_489 : decode cL_law 489 = .ok (.aload_n 0, 1) := by decide +kernel
theorem dL_law_490 : decode cL_law 490 = .ok (.iload_n 3, 1) := by decide +kernel
theorem dL_law_491 : decode cL_law 491 = .ok (.iconst 3, 1) := by decide +kernel
theorem dL_law_492 : decode cL_law 492 = .ok (.iadd, 1) := by decide +kernel
theorem dL_law_493 : decode cL_law 493 = .ok (.iaload, 1) := by decide +kernel
theorem dL_law_494 : decode cL_law 494 = .ok (.invokevirtual 48, 3) := by decide +kernel
theorem dL_law_497 : decode cL_law 497 = .ok (.aload_n 2, 1) := by decide +kernel
theorem dL_law_498 : decode cL_law 498 = .ok (.aload_n 0, 1) := by decide +kernel
theorem dL_law_499 : decode cL_law 499 = .ok (.iload_n 3, 1) := by decide +kernel
theorem dL_law_500 : decode cL_law 500 = .ok (.iconst 1, 1) := by decide +kernel
theorem dL_law_501 : decode cL_law 501 = .ok (.iadd, 1) := by decide +kernel
theorem dL_law_502 : decode cL_law 502 = .ok (.iaload, 1) := by decide +kernel
theorem dL_law_503 : decode cL_law 503 = .ok (.aload_n 0, 1) := by decide +kernel
theorem dL_law_504 : decode cL_law 504 = .ok (.iload_n 3, 1) := by decide +kernel
theorem dL_law_505 : decode cL_law 505 = .ok (.iconst 2, 1) := by decide +kernel
theorem dL_law_506 : decode cL_law 506 = .ok (.iadd, 1) := by decide +kernel
theorem dL_law_507 : decode cL_law 507 = .ok (.iaload, 1) := by decide +kernel
theorem dL_law_508 : decode cL_law 508 = .ok (.aload_n 0, 1) := by decide +kernel
theorem dL_law_509 : decode cL_law 509 = .ok (.iload_n 3, 1) := by decide +kernel
theorem dL_law_510 : decode cL_law 510 = .ok (.iconst 3, 1) := by decide +kernel
theorem dL_law_511 : decode cL_law 511 = .ok (.iadd, 1) := by decide +kernel
theorem dL_law_512 : decode cL_law 512 = .ok (.iaload, 1) := by decide +kernel
theorem dL_law_513 : decode cL_law 513 = .ok (.invokevirtual 51, 3) := by decide +kernel
theorem dL_law_516 : decode cL_law 516 = .ok (.if_icmp .eq 1121, 3) := by decide +kernel
theorem dL_law_519 : decode cL_law 519 = .ok (.iconst 0, 1) := by decide +kernel
theorem dL_law_520 : decode cL_law 520 = .ok (.ireturn, 1) := by decide +kernel
theorem dL_law_521 : decode cL_law 521 = .ok (.aload_n 1, 1) := by decide +kernel
theorem dL_law_522 : decode cL_law 522 = .ok (.aload_n 0, 1) := by decide +kernel
theorem dL_law_523 : decode cL_law 523 = .ok (.iload_n 3, 1) := by decide +kernel
theorem dL_law_524 : decode cL_law 524 = .ok (.iconst 1, 1) := by decide +kernel
theorem dL_law_525 : decode cL_law 525 = .ok (.iadd, 1) := by decide +kernel
theorem dL_law_526 : decode cL_law 526 = .ok (.iaload, 1) := by decide +kernel
theorem dL_law_527 : decode cL_law 527 = .ok (.invokevirtual 52, 3) := by decide +kernel
theorem dL_law_530 : decode cL_law 530 = .ok (.aload_n 2, 1) := by decide +kernel
theorem dL_law_531 : decode cL_law 531 = .ok (.aload_n 0, 1) := by decide +kernel
theorem dL_law_532 : decode cL_law 532 = .ok (.iload_n 3, 1) := by decide +kernel
theorem dL_law_533 : decode cL_law 533 = .ok (.iconst 1, 1) := by decide +kernel
theorem dL_law_534 : decode cL_law 534 = .ok (.iadd, 1) := by decide +kernel
theorem dL_law_535 : decode cL_law 535 = .ok (.iaload, 1) := by decide +kernel
theorem dL_law_536 : decode cL_law 536 = .ok (.invokevirtual 55, 3) := by decide +kernel
theorem dL_law_539 : decode cL_law 539 = .ok (.if_icmp .eq 1098, 3) := by decide +kernel
theorem dL_law_542 : decode cL_law 542 = .ok (.iconst 0, 1) := by decide +kernel
theorem dL_law_543 : decode cL_law 543 = .ok (.ireturn, 1) := by decide +kernel
theorem dL_law_544 : decode cL_law 544 = .ok (.aload_n 1, 1) := by decide +kernel
theorem dL_law_545 : decode cL_law 545 = .ok (.aload_n 0, 1) := by decide +kernel
theorem dL_law_546 : decode cL_law 546 = .ok (.iload_n 3, 1) := by decide +kernel
theorem dL_law_547 : decode cL_law 547 = .ok (.iconst 1, 1) := by decide +kernel
theorem dL_law_548 : decode cL_law 548 = .ok (.iadd, 1) := by decide +kernel
theorem dL_law_549 : decode cL_law 549 = .ok (.iaload, 1) := by decide +kernel
theorem dL_law_550 : decode cL_law 550 = .ok (.invokevirtual 56, 3) := by decide +kernel
theorem dL_law_553 : decode cL_law 553 = .ok (.aload_n 2, 1) := by decide +kernel
theorem dL_law_554 : decode cL_law 554 = .ok (.aload_n 0, 1) := by decide +kernel
theorem dL_law_555 : decode cL_law 555 = .ok (.iload_n 3, 1) := by decide +kernel
theorem dL_law_556 : decode cL_law 556 = .ok (.iconst 1, 1) := by decide +kernel
theorem dL_law_557 : decode cL_law 557 = .ok (.iadd, 1) := by decide +kernel
theorem dL_law_558 : decode cL_law 558 = .ok (.iaload, 1) := by decide +kernel
theorem dL_law_559 : decode cL_law 559 = .ok (.invokevirtual 59, 3) := by decide +kernel
theorem dL_law_562 : decode cL_law 562 = .ok (.if_icmp .eq 1075, 3) := by decide +kernel
theorem dL_law_565 : decode cL_law 565 = .ok (.iconst 0, 1) := by decide +kernel
theorem dL_law_566 : decode cL_law 566 = .ok (.ireturn, 1) := by decide +kernel
theorem dL_law_567 : decode cL_law 567 = .ok (.aload_n 1, 1) := by decide +kernel
theorem dL_law_568 : decode cL_law 568 = .ok (.aload_n 0, 1) := by decide +kernel
theorem dL_law_569 : decode cL_law 569 = .ok (.iload_n 3, 1) := by decide +kernel
theorem dL_law_570 : decode cL_law 570 = .ok (.iconst 1, 1) := by decide +kernel
theorem dL_law_571 : decode cL_law 571 = .ok (.iadd, 1) := by decide +kernel
theorem dL_law_572 : decode cL_law 572 = .ok (.iaload, 1) := by decide +kernel
theorem dL_law_573 : decode cL_law 573 = .ok (.aload_n 0, 1) := by decide +kernel
theorem dL_law_574 : decode cL_law 574 = .ok (.iload_n 3, 1) := by decide +kernel
theorem dL_law_575 : decode cL_law 575 = .ok (.iconst 2, 1) := by decide +kernel
theorem dL_law_576 : decode cL_law 576 = .ok (.iadd, 1) := by decide +kernel
theorem dL_law_577 : decode cL_law 577 = .ok (.iaload, 1) := by decide +kernel
theorem dL_law_578 : decode cL_law 578 = .ok (.invokevirtual 60, 3) := by decide +kernel
theorem dL_law_581 : decode cL_law 581 = .ok (.aload_n 2, 1) := by decide +kernel
theorem dL_law_582 : decode cL_law 582 = .ok (.aload_n 0, 1) := by decide +kernel
theorem dL_law_583 : decode cL_law 583 = .ok (.iload_n 3, 1) := by decide +kernel
theorem dL_law_584 : decode cL_law 584 = .ok (.iconst 1, 1) := by decide +kernel
theorem dL_law_585 : decode cL_law 585 = .ok (.iadd, 1) := by decide +kernel
theorem dL_law_586 : decode cL_law 586 = .ok (.iaload, 1) := by decide +kernel
theorem dL_law_587 : decode cL_law 587 = .ok (.aload_n 0, 1) := by decide +kernel
theorem dL_law_588 : decode cL_law 588 = .ok (.iload_n 3, 1) := by decide +kernel
theorem dL_law_589 : decode cL_law 589 = .ok (.iconst 2, 1) := by decide +kernel
theorem dL_law_590 : decode cL_law 590 = .ok (.iadd, 1) := by decide +kernel
theorem dL_law_591 : decode cL_law 591 = .ok (.iaload, 1) := by decide +kernel
theorem dL_law_592 : decode cL_law 592 = .ok (.invokevirtual 63, 3) := by decide +kernel
theorem dL_law_595 : decode cL_law 595 = .ok (.if_icmp .eq 1042, 3) := by decide +kernel
theorem dL_law_598 : decode cL_law 598 = .ok (.iconst 0, 1) := by decide +kernel
theorem dL_law_599 : decode cL_law 599 = .ok (.ireturn, 1) := by decide +kernel
theorem dL_law_600 : decode cL_law 600 = .ok (.aload_n 1, 1) := by decide +kernel
theorem dL_law_601 : decode cL_law 601 = .ok (.aload_n 0, 1) := by decide +kernel
theorem dL_law_602 : decode cL_law 602 = .ok (.iload_n 3, 1) := by decide +kernel
theorem dL_law_603 : decode cL_law 603 = .ok (.iconst 1, 1) := by decide +kernel
theorem dL_law_604 : decode cL_law 604 = .ok (.iadd, 1) := by decide +kernel
theorem dL_law_605 : decode cL_law 605 = .ok (.iaload, 1) := by decide +kernel
theorem dL_law_606 : decode cL_law 606 = .ok (.aload_n 0, 1) := by decide +kernel
theorem dL_law_607 : decode cL_law 607 = .ok (.iload_n 3, 1) := by decide +kernel
theorem dL_law_608 : decode cL_law 608 = .ok (.iconst 2, 1) := by decide +kernel
theorem dL_law_609 : decode cL_law 609 = .ok (.iadd, 1) := by decide +kernel
theorem dL_law_610 : decode cL_law 610 = .ok (.iaload, 1) := by decide +kernel
theorem dL_law_611 : decode cL_law 611 = .ok (.invokevirtual 64, 3) := by decide +kernel
theorem dL_law_614 : decode cL_law 614 = .ok (.aload_n 2, 1) := by decide +kernel
theorem dL_law_615 : decode cL_law 615 = .ok (.aload_n 0, 1) := by decide +kernel
theorem dL_law_616 : decode cL_law 616 = .ok (.iload_n 3, 1) := by decide +kernel
theorem dL_law_617 : decode cL_law 617 = .ok (.iconst 1, 1) := by decide +kernel
theorem dL_law_618 : decode cL_law 618 = .ok (.iadd, 1) := by decide +kernel
theorem dL_law_619 : decode cL_law 619 = .ok (.iaload, 1) := by decide +kernel
theorem dL_law_620 : decode cL_law 620 = .ok (.aload_n 0, 1) := by decide +kernel
theorem dL_law_621 : decode cL_law 621 = .ok (.iload_n 3, 1) := by decide +kernel
theorem dL_law_622 : decode cL_law 622 = .ok (.iconst 2, 1) := by decide +kernel
theorem dL_law_623 : decode cL_law 623 = .ok (.iadd, 1) := by decide +kernel
theorem dL_law_624 : decode cL_law 624 = .ok (.iaload, 1) := by decide +kernel
theorem dL_law_625 : decode cL_law 625 = .ok (.invokevirtual 67, 3) := by decide +kernel
theorem dL_law_628 : decode cL_law 628 = .ok (.if_icmp .eq 1009, 3) := by decide +kernel
theorem dL_law_631 : decode cL_law 631 = .ok (.iconst 0, 1) := by decide +kernel
theorem dL_law_632 : decode cL_law 632 = .ok (.ireturn, 1) := by decide +kernel
theorem dL_law_633 : decode cL_law 633 = .ok (.aload_n 1, 1) := by decide +kernel
theorem dL_law_634 : decode cL_law 634 = .ok (.aload_n 0, 1) := by decide +kernel
theorem dL_law_635 : decode cL_law 635 = .ok (.iload_n 3, 1) := by decide +kernel
theorem dL_law_636 : decode cL_law 636 = .ok (.iconst 1, 1) := by decide +kernel
theorem dL_law_637 : decode cL_law 637 = .ok (.iadd, 1) := by decide +kernel
theorem dL_law_638 : decode cL_law 638 = .ok (.iaload, 1) := by decide +kernel
theorem dL_law_639 : decode cL_law 639 = .ok (.aload_n 0, 1) := by decide +kernel
theorem dL_law_640 : decode cL_law 640 = .ok (.iload_n 3, 1) := by decide +kernel
theorem dL_law_641 : decode cL_law 641 = .ok (.iconst 2, 1) := by decide +kernel
theorem dL_law_642 : decode cL_law 642 = .ok (.iadd, 1) := by decide +kernel
theorem dL_law_643 : decode cL_law 643 = .ok (.iaload, 1) := by decide +kernel
theorem dL_law_644 : decode cL_law 644 = .ok (.aload_n 0, 1) := by decide +kernel
theorem dL_law_645 : decode cL_law 645 = .ok (.iload_n 3, 1) := by decide +kernel
theorem dL_law_646 : decode cL_law 646 = .ok (.iconst 3, 1) := by decide +kernel
theorem dL_law_647 : decode cL_law 647 = .ok (.iadd, 1) := by decide +kernel
theorem dL_law_648 : decode cL_law 648 = .ok (.iaload, 1) := by decide +kernel
theorem dL_law_649 : decode cL_law 649 = .ok (.invokevirtual 68, 3) := by decide +kernel
theorem dL_law_652 : decode cL_law 652 = .ok (.aload_n 2, 1) := by decide +kernel
theorem dL_law_653 : decode cL_law 653 = .ok (.aload_n 0, 1) := by decide +kernel
theorem dL_law_654 : decode cL_law 654 = .ok (.iload_n 3, 1) := by decide +kernel
theorem dL_law_655 : decode cL_law 655 = .ok (.iconst 1, 1) := by decide +kernel
theorem dL_law_656 : decode cL_law 656 = .ok (.iadd, 1) := by decide +kernel
theorem dL_law_657 : decode cL_law 657 = .ok (.iaload, 1) := by decide +kernel
theorem dL_law_658 : decode cL_law 658 = .ok (.aload_n 0, 1) := by decide +kernel
theorem dL_law_659 : decode cL_law 659 = .ok (.iload_n 3, 1) := by decide +kernel
theorem dL_law_660 : decode cL_law 660 = .ok (.iconst 2, 1) := by decide +kernel
theorem dL_law_661 : decode cL_law 661 = .ok (.iadd, 1) := by decide +kernel
theorem dL_law_662 : decode cL_law 662 = .ok (.iaload, 1) := by decide +kernel
theorem dL_law_663 : decode cL_law 663 = .ok (.aload_n 0, 1) := by decide +kernel
theorem dL_law_664 : decode cL_law 664 = .ok (.iload_n 3, 1) := by decide +kernel
theorem dL_law_665 : decode cL_law 665 = .ok (.iconst 3, 1) := by decide +kernel
theorem dL_law_666 : decode cL_law 666 = .ok (.iadd, 1) := by decide +kernel
theorem dL_law_667 : decode cL_law 667 = .ok (.iaload, 1) := by decide +kernel
theorem dL_law_668 : decode cL_law 668 = .ok (.invokevirtual 71, 3) := by decide +kernel
theorem dL_law_671 : decode cL_law 671 = .ok (.if_icmp .eq 966, 3) := by decide +kernel
theorem dL_law_674 : decode cL_law 674 = .ok (.iconst 0, 1) := by decide +kernel
theorem dL_law_675 : decode cL_law 675 = .ok (.ireturn, 1) := by decide +kernel
theorem dL_law_676 : decode cL_law 676 = .ok (.aload_n 1, 1) := by decide +kernel
theorem dL_law_677 : decode cL_law 677 = .ok (.aload_n 0, 1) := by decide +kernel
theorem dL_law_678 : decode cL_law 678 = .ok (.iload_n 3, 1) := by decide +kernel
theorem dL_law_679 : decode cL_law 679 = .ok (.iconst 1, 1) := by decide +kernel
theorem dL_law_680 : decode cL_law 680 = .ok (.iadd, 1) := by decide +kernel
theorem dL_law_681 : decode cL_law 681 = .ok (.iaload, 1) := by decide +kernel
theorem dL_law_682 : decode cL_law 682 = .ok (.aload_n 0, 1) := by decide +kernel
theorem dL_law_683 : decode cL_law 683 = .ok (.iload_n 3, 1) := by decide +kernel
theorem dL_law_684 : decode cL_law 684 = .ok (.iconst 2, 1) := by decide +kernel
theorem dL_law_685 : decode cL_law 685 = .ok (.iadd, 1) := by decide +kernel
theorem dL_law_686 : decode cL_law 686 = .ok (.iaload, 1) := by decide +kernel
theorem dL_law_687 : decode cL_law 687 = .ok (.invokevirtual 72, 3) := by decide +kernel
theorem dL_law_690 : decode cL_law 690 = .ok (.aload_n 2, 1) := by decide +kernel
theorem dL_law_691 : decode cL_law 691 = .ok (.aload_n 0, 1) := by decide +kernel
theorem dL_law_692 : decode cL_law 692 = .ok (.iload_n 3, 1) := by decide +kernel
theorem dL_law_693 : decode cL_law 693 = .ok (.iconst 1, 1) := by decide +kernel
theorem dL_law_694 : decode cL_law 694 = .ok (.iadd, 1) := by decide +kernel
theorem dL_law_695 : decode cL_law 695 = .ok (.iaload, 1) := by decide +kernel
theorem dL_law_696 : decode cL_law 696 = .ok (.aload_n 0, 1) := by decide +kernel
theorem dL_law_697 : decode cL_law 697 = .ok (.iload_n 3, 1) := by decide +kernel
theorem dL_law_698 : decode cL_law 698 = .ok (.iconst 2, 1) := by decide +kernel
theorem dL_law_699 : decode cL_law 699 = .ok (.iadd, 1) := by decide +kernel
theorem dL_law_700 : decode cL_law 700 = .ok (.iaload, 1) := by decide +kernel
theorem dL_law_701 : decode cL_law 701 = .ok (.invokevirtual 75, 3) := by decide +kernel
theorem dL_law_704 : decode cL_law 704 = .ok (.if_icmp .eq 933, 3) := by decide +kernel
theorem dL_law_707 : decode cL_law 707 = .ok (.iconst 0, 1) := by decide +kernel
theorem dL_law_708 : decode cL_law 708 = .ok (.ireturn, 1) := by decide +kernel
theorem dL_law_709 : decode cL_law 709 = .ok (.aload_n 1, 1) := by decide +kernel
theorem dL_law_710 : decode cL_law 710 = .ok (.aload_n 0, 1) := by decide +kernel
theorem dL_law_711 : decode cL_law 711 = .ok (.iload_n 3, 1) := by decide +kernel
theorem dL_law_712 : decode cL_law 712 = .ok (.iconst 1, 1) := by decide +kernel
theorem dL_law_713 : decode cL_law 713 = .ok (.iadd, 1) := by decide +kernel
theorem dL_law_714 : decode cL_law 714 = .ok (.iaload, 1) := by decide +kernel
theorem dL_law_715 : decode cL_law 715 = .ok (.aload_n 0, 1) := by decide +kernel
theorem dL_law_716 : decode cL_law 716 = .ok (.iload_n 3, 1) := by decide +kernel
theorem dL_law_717 : decode cL_law 717 = .ok (.iconst 2, 1) := by decide +kernel
theorem dL_law_718 : decode cL_law 718 = .ok (.iadd, 1) := by decide +kernel
theorem dL_law_719 : decode cL_law 719 = .ok (.iaload, 1) := by decide +kernel
theorem dL_law_720 : decode cL_law 720 = .ok (.invokevirtual 76, 3) := by decide +kernel
theorem dL_law_723 : decode cL_law 723 = .ok (.aload_n 2, 1) := by decide +kernel
theorem dL_law_724 : decode cL_law 724 = .ok (.aload_n 0, 1) := by decide +kernel
theorem dL_law_725 : decode cL_law 725 = .ok (.iload_n 3, 1) := by decide +kernel
theorem dL_law_726 : decode cL_law 726 = .ok (.iconst 1, 1) := by decide +kernel
theorem dL_law_727 : decode cL_law 727 = .ok (.iadd, 1) := by decide +kernel
theorem dL_law_728 : decode cL_law 728 = .ok (.iaload, 1) := by decide +kernel
theorem dL_law_729 : decode cL_law 729 = .ok (.aload_n 0, 1) := by decide +kernel
theorem dL_law_730 : decode cL_law 730 = .ok (.iload_n 3, 1) := by decide +kernel
theorem dL_law_731 : decode cL_law 731 = .ok (.iconst 2, 1) := by decide +kernel
theorem dL_law_732 : decode cL_law 732 = .ok (.iadd, 1) := by decide +kernel
theorem dL_law_733 : decode cL_law 733 = .ok (.iaload, 1) := by decide +kernel
theorem dL_law_734 : decode cL_law 734 = .ok (.invokevirtual 79, 3) := by decide +kernel
theorem dL_law_737 : decode cL_law 737 = .ok (.if_icmp .eq 900, 3) := by decide +kernel
theorem dL_law_740 : decode cL_law 740 = .ok (.iconst 0, 1) := by decide +kernel
theorem dL_law_741 : decode cL_law 741 = .ok (.ireturn, 1) := by decide +kernel
theorem dL_law_742 : decode cL_law 742 = .ok (.aload_n 1, 1) := by decide +kernel
theorem dL_law_743 : decode cL_law 743 = .ok (.aload_n 0, 1) := by decide +kernel
theorem dL_law_744 : decode cL_law 744 = .ok (.iload_n 3, 1) := by decide +kernel
theorem dL_law_745 : decode cL_law 745 = .ok (.iconst 1, 1) := by decide +kernel
theorem dL_law_746 : decode cL_law 746 = .ok (.iadd, 1) := by decide +kernel
theorem dL_law_747 : decode cL_law 747 = .ok (.iaload, 1) := by decide +kernel
theorem dL_law_748 : decode cL_law 748 = .ok (.aload_n 0, 1) := by decide +kernel
theorem dL_law_749 : decode cL_law 749 = .ok (.iload_n 3, 1) := by decide +kernel
theorem dL_law_750 : decode cL_law 750 = .ok (.iconst 2, 1) := by decide +kernel
theorem dL_law_751 : decode cL_law 751 = .ok (.iadd, 1) := by decide +kernel
theorem dL_law_752 : decode cL_law 752 = .ok (.iaload, 1) := by decide +kernel
theorem dL_law_753 : decode cL_law 753 = .ok (.invokevirtual 80, 3) := by decide +kernel
theorem dL_law_756 : decode cL_law 756 = .ok (.aload_n 2, 1) := by decide +kernel
theorem dL_law_757 : decode cL_law 757 = .ok (.aload_n 0, 1) := by decide +kernel
theorem dL_law_758 : decode cL_law 758 = .ok (.iload_n 3, 1) := by decide +kernel
theorem dL_law_759 : decode cL_law 759 = .ok (.iconst 1, 1) := by decide +kernel
theorem dL_law_760 : decode cL_law 760 = .ok (.iadd, 1) := by decide +kernel
theorem dL_law_761 : decode cL_law 761 = .ok (.iaload, 1) := by decide +kernel
theorem dL_law_762 : decode cL_law 762 = .ok (.aload_n 0, 1) := by decide +kernel
theorem dL_law_763 : decode cL_law 763 = .ok (.iload_n 3, 1) := by decide +kernel
theorem dL_law_764 : decode cL_law 764 = .ok (.iconst 2, 1) := by decide +kernel
theorem dL_law_765 : decode cL_law 765 = .ok (.iadd, 1) := by decide +kernel
theorem dL_law_766 : decode cL_law 766 = .ok (.iaload, 1) := by decide +kernel
theorem dL_law_767 : decode cL_law 767 = .ok (.invokevirtual 83, 3) := by decide +kernel
theorem dL_law_770 : decode cL_law 770 = .ok (.if_icmp .eq 867, 3) := by decide +kernel
theorem dL_law_773 : decode cL_law 773 = .ok (.iconst 0, 1) := by decide +kernel
theorem dL_law_774 : decode cL_law 774 = .ok (.ireturn, 1) := by decide +kernel
theorem dL_law_775 : decode cL_law 775 = .ok (.aload_n 1, 1) := by decide +kernel
theorem dL_law_776 : decode cL_law 776 = .ok (.aload_n 0, 1) := by decide +kernel
theorem dL_law_777 : decode cL_law 777 = .ok (.iload_n 3, 1) := by decide +kernel
theorem dL_law_778 : decode cL_law 778 = .ok (.iconst 1, 1) := by decide +kernel
theorem dL_law_779 : decode cL_law 779 = .ok (.iadd, 1) := by decide +kernel
theorem dL_law_780 : decode cL_law 780 = .ok (.iaload, 1) := by decide +kernel
theorem dL_law_781 : decode cL_law 781 = .ok (.aload_n 0, 1) := by decide +kernel
theorem dL_law_782 : decode cL_law 782 = .ok (.iload_n 3, 1) := by decide +kernel
theorem dL_law_783 : decode cL_law 783 = .ok (.iconst 2, 1) := by decide +kernel
theorem dL_law_784 : decode cL_law 784 = .ok (.iadd, 1) := by decide +kernel
theorem dL_law_785 : decode cL_law 785 = .ok (.iaload, 1) := by decide +kernel
theorem dL_law_786 : decode cL_law 786 = .ok (.aload_n 0, 1) := by decide +kernel
theorem dL_law_787 : decode cL_law 787 = .ok (.iload_n 3, 1) := by decide +kernel
theorem dL_law_788 : decode cL_law 788 = .ok (.iconst 3, 1) := by decide +kernel
theorem dL_law_789 : decode cL_law 789 = .ok (.iadd, 1) := by decide +kernel
theorem dL_law_790 : decode cL_law 790 = .ok (.iaload, 1) := by decide +kernel
theorem dL_law_791 : decode cL_law 791 = .ok (.aload_n 0, 1) := by decide +kernel
theorem dL_law_792 : decode cL_law 792 = .ok (.iload_n 3, 1) := by decide +kernel
theorem dL_law_793 : decode cL_law 793 = .ok (.iconst 4, 1) := by decide +kernel
theorem dL_law_794 : decode cL_law 794 = .ok (.iadd, 1) := by decide +kernel
theorem dL_law_795 : decode cL_law 795 = .ok (.iaload, 1) := by decide +kernel
theorem dL_law_796 : decode cL_law 796 = .ok (.invokevirtual 84, 3) := by decide +kernel
theorem dL_law_799 : decode cL_law 799 = .ok (.aload_n 2, 1) := by decide +kernel
theorem dL_law_800 : decode cL_law 800 = .ok (.aload_n 0, 1) := by decide +kernel
theorem dL_law_801 : decode cL_law 801 = .ok (.iload_n 3, 1) := by decide +kernel
theorem dL_law_802 : decode cL_law 802 = .ok (.iconst 1, 1) := by decide +kernel
theorem dL_law_803 : decode cL_law 803 = .ok (.iadd, 1) := by decide +kernel
theorem dL_law_804 : decode cL_law 804 = .ok (.iaload, 1) := by decide +kernel
theorem dL_law_805 : decode cL_law 805 = .ok (.aload_n 0, 1) := by decide +kernel
theorem dL_law_806 : decode cL_law 806 = .ok (.iload_n 3, 1) := by decide +kernel
theorem dL_law_807 : decode cL_law 807 = .ok (.iconst 2, 1) := by decide +kernel
theorem dL_law_808 : decode cL_law 808 = .ok (.iadd, 1) := by decide +kernel
theorem dL_law_809 : decode cL_law 809 = .ok (.iaload, 1) := by decide +kernel
theorem dL_law_810 : decode cL_law 810 = .ok (.aload_n 0, 1) := by decide +kernel
theorem dL_law_811 : decode cL_law 811 = .ok (.iload_n 3, 1) := by decide +kernel
theorem dL_law_812 : decode cL_law 812 = .ok (.iconst 3, 1) := by decide +kernel
theorem dL_law_813 : decode cL_law 813 = .ok (.iadd, 1) := by decide +kernel
theorem dL_law_814 : decode cL_law 814 = .ok (.iaload, 1) := by decide +kernel
theorem dL_law_815 : decode cL_law 815 = .ok (.aload_n 0, 1) := by decide +kernel
theorem dL_law_816 : decode cL_law 816 = .ok (.iload_n 3, 1) := by decide +kernel
theorem dL_law_817 : decode cL_law 817 = .ok (.iconst 4, 1) := by decide +kernel
theorem dL_law_818 : decode cL_law 818 = .ok (.iadd, 1) := by decide +kernel
theorem dL_law_819 : decode cL_law 819 = .ok (.iaload, 1) := by decide +kernel
theorem dL_law_820 : decode cL_law 820 = .ok (.invokevirtual 88, 3) := by decide +kernel
theorem dL_law_823 : decode cL_law 823 = .ok (.if_icmp .eq 814, 3) := by decide +kernel
theorem dL_law_826 : decode cL_law 826 = .ok (.iconst 0, 1) := by decide +kernel
theorem dL_law_827 : decode cL_law 827 = .ok (.ireturn, 1) := by decide +kernel
theorem dL_law_828 : decode cL_law 828 = .ok (.aload_n 1, 1) := by decide +kernel
theorem dL_law_829 : decode cL_law 829 = .ok (.aload_n 0, 1) := by decide +kernel
theorem dL_law_830 : decode cL_law 830 = .ok (.iload_n 3, 1) := by decide +kernel
theorem dL_law_831 : decode cL_law 831 = .ok (.iconst 1, 1) := by decide +kernel
theorem dL_law_832 : decode cL_law 832 = .ok (.iadd, 1) := by decide +kernel
theorem dL_law_833 : decode cL_law 833 = .ok (.iaload, 1) := by decide +kernel
theorem dL_law_834 : decode cL_law 834 = .ok (.aload_n 0, 1) := by decide +kernel
theorem dL_law_835 : decode cL_law 835 = .ok (.iload_n 3, 1) := by decide +kernel
theorem dL_law_836 : decode cL_law 836 = .ok (.iconst 2, 1) := by decide +kernel
theorem dL_law_837 : decode cL_law 837 = .ok (.iadd, 1) := by decide +kernel
theorem dL_law_838 : decode cL_law 838 = .ok (.iaload, 1) := by decide +kernel
theorem dL_law_839 : decode cL_law 839 = .ok (.aload_n 0, 1) := by decide +kernel
theorem dL_law_840 : decode cL_law 840 = .ok (.iload_n 3, 1) := by decide +kernel
theorem dL_law_841 : decode cL_law 841 = .ok (.iconst 3, 1) := by decide +kernel
theorem dL_law_842 : decode cL_law 842 = .ok (.iadd, 1) := by decide +kernel
theorem dL_law_843 : decode cL_law 843 = .ok (.iaload, 1) := by decide +kernel
theorem dL_law_844 : decode cL_law 844 = .ok (.aload_n 0, 1) := by decide +kernel
theorem dL_law_845 : decode cL_law 845 = .ok (.iload_n 3, 1) := by decide +kernel
theorem dL_law_846 : decode cL_law 846 = .ok (.iconst 4, 1) := by decide +kernel
theorem dL_law_847 : decode cL_law 847 = .ok (.iadd, 1) := by decide +kernel
theorem dL_law_848 : decode cL_law 848 = .ok (.iaload, 1) := by decide +kernel
theorem dL_law_849 : decode cL_law 849 = .ok (.invokevirtual 89, 3) := by decide +kernel
theorem dL_law_852 : decode cL_law 852 = .ok (.aload_n 2, 1) := by decide +kernel
theorem dL_law_853 : decode cL_law 853 = .ok (.aload_n 0, 1) := by decide +kernel
theorem dL_law_854 : decode cL_law 854 = .ok (.iload_n 3, 1) := by decide +kernel
theorem dL_law_855 : decode cL_law 855 = .ok (.iconst 1, 1) := by decide +kernel
theorem dL_law_856 : decode cL_law 856 = .ok (.iadd, 1) := by decide +kernel
theorem dL_law_857 : decode cL_law 857 = .ok (.iaload, 1) := by decide +kernel
theorem dL_law_858 : decode cL_law 858 = .ok (.aload_n 0, 1) := by decide +kernel
theorem dL_law_859 : decode cL_law 859 = .ok (.iload_n 3, 1) := by decide +kernel
theorem dL_law_860 : decode cL_law 860 = .ok (.iconst 2, 1) := by decide +kernel
theorem dL_law_861 : decode cL_law 861 = .ok (.iadd, 1) := by decide +kernel
theorem dL_law_862 : decode cL_law 862 = .ok (.iaload, 1) := by decide +kernel
theorem dL_law_863 : decode cL_law 863 = .ok (.aload_n 0, 1) := by decide +kernel
theorem dL_law_864 : decode cL_law 864 = .ok (.iload_n 3, 1) := by decide +kernel
theorem dL_law_865 : decode cL_law 865 = .ok (.iconst 3, 1) := by decide +kernel
theorem dL_law_866 : decode cL_law 866 = .ok (.iadd, 1) := by decide +kernel
theorem dL_law_867 : decode cL_law 867 = .ok (.iaload, 1) := by decide +kernel
theorem dL_law_868 : decode cL_law 868 = .ok (.aload_n 0, 1) := by decide +kernel
theorem dL_law_869 : decode cL_law 869 = .ok (.iload_n 3, 1) := by decide +kernel
theorem dL_law_870 : decode cL_law 870 = .ok (.iconst 4, 1) := by decide +kernel
theorem dL_law_871 : decode cL_law 871 = .ok (.iadd, 1) := by decide +kernel
theorem dL_law_872 : decode cL_law 872 = .ok (.iaload, 1) := by decide +kernel
theorem dL_law_873 : decode cL_law 873 = .ok (.invokevirtual 92, 3) := by decide +kernel
theorem dL_law_876 : decode cL_law 876 = .ok (.if_icmp .eq 761, 3) := by decide +kernel
theorem dL_law_879 : decode cL_law 879 = .ok (.iconst 0, 1) := by decide +kernel
theorem dL_law_880 : decode cL_law 880 = .ok (.ireturn, 1) := by decide +kernel
theorem dL_law_881 : decode cL_law 881 = .ok (.aload_n 1, 1) := by decide +kernel
theorem dL_law_882 : decode cL_law 882 = .ok (.aload_n 0, 1) := by decide +kernel
theorem dL_law_883 : decode cL_law 883 = .ok (.iload_n 3, 1) := by decide +kernel
theorem dL_law_884 : decode cL_law 884 = .ok (.iconst 1, 1) := by decide +kernel
theorem dL_law_885 : decode cL_law 885 = .ok (.iadd, 1) := by decide +kernel
theorem dL_law_886 : decode cL_law 886 = .ok (.iaload, 1) := by decide +kernel
theorem dL_law_887 : decode cL_law 887 = .ok (.aload_n 0, 1) := by decide +kernel
theorem dL_law_888 : decode cL_law 888 = .ok (.iload_n 3, 1) := by decide +kernel
theorem dL_law_889 : decode cL_law 889 = .ok (.iconst 2, 1) := by decide +kernel
theorem dL_law_890 : decode cL_law 890 = .ok (.iadd, 1) := by decide +kernel
theorem dL_law_891 : decode cL_law 891 = .ok (.iaload, 1) := by decide +kernel
theorem dL_law_892 : decode cL_law 892 = .ok (.aload_n 0, 1) := by decide +kernel
theorem dL_law_893 : decode cL_law 893 = .ok (.iload_n 3, 1) := by decide +kernel
theorem dL_law_894 : decode cL_law 894 = .ok (.iconst 3, 1) := by decide +kernel
theorem dL_law_895 : decode cL_law 895 = .ok (.iadd, 1) := by decide +kernel
theorem dL_law_896 : decode cL_law 896 = .ok (.iaload, 1) := by decide +kernel
theorem dL_law_897 : decode cL_law 897 = .ok (.aload_n 0, 1) := by decide +kernel
theorem dL_law_898 : decode cL_law 898 = .ok (.iload_n 3, 1) := by decide +kernel
theorem dL_law_899 : decode cL_law 899 = .ok (.iconst 4, 1) := by decide +kernel
theorem dL_law_900 : decode cL_law 900 = .ok (.iadd, 1) := by decide +kernel
theorem dL_law_901 : decode cL_law 901 = .ok (.iaload, 1) := by decide +kernel
theorem dL_law_902 : decode cL_law 902 = .ok (.invokevirtual 93, 3) := by decide +kernel
theorem dL_law_905 : decode cL_law 905 = .ok (.aload_n 2, 1) := by decide +kernel
theorem dL_law_906 : decode cL_law 906 = .ok (.aload_n 0, 1) := by decide +kernel
theorem dL_law_907 : decode cL_law 907 = .ok (.iload_n 3, 1) := by decide +kernel
theorem dL_law_908 : decode cL_law 908 = .ok (.iconst 1, 1) := by decide +kernel
theorem dL_law_909 : decode cL_law 909 = .ok (.iadd, 1) := by decide +kernel
theorem dL_law_910 : decode cL_law 910 = .ok (.iaload, 1) := by decide +kernel
theorem dL_law_911 : decode cL_law 911 = .ok (.aload_n 0, 1) := by decide +kernel
theorem dL_law_912 : decode cL_law 912 = .ok (.iload_n 3, 1) := by decide +kernel
theorem dL_law_913 : decode cL_law 913 = .ok (.iconst 2, 1) := by decide +kernel
theorem dL_law_914 : decode cL_law 914 = .ok (.iadd, 1) := by decide +kernel
theorem dL_law_915 : decode cL_law 915 = .ok (.iaload, 1) := by decide +kernel
theorem dL_law_916 : decode cL_law 916 = .ok (.aload_n 0, 1) := by decide +kernel
theorem dL_law_917 : decode cL_law 917 = .ok (.iload_n 3, 1) := by decide +kernel
theorem dL_law_918 : decode cL_law 918 = .ok (.iconst 3, 1) := by decide +kernel
theorem dL_law_919 : decode cL_law 919 = .ok (.iadd, 1) := by decide +kernel
theorem dL_law_920 : decode cL_law 920 = .ok (.iaload, 1) := by decide +kernel
theorem dL_law_921 : decode cL_law 921 = .ok (.aload_n 0, 1) := by decide +kernel
theorem dL_law_922 : decode cL_law 922 = .ok (.iload_n 3, 1) := by decide +kernel
theorem dL_law_923 : decode cL_law 923 = .ok (.iconst 4, 1) := by decide +kernel
theorem dL_law_924 : decode cL_law 924 = .ok (.iadd, 1) := by decide +kernel
theorem dL_law_925 : decode cL_law 925 = .ok (.iaload, 1) := by decide +kernel
theorem dL_law_926 : decode cL_law 926 = .ok (.invokevirtual 96, 3) := by decide +kernel
theorem dL_law_929 : decode cL_law 929 = .ok (.if_icmp .eq 708, 3) := by decide +kernel
theorem dL_law_932 : decode cL_law 932 = .ok (.iconst 0, 1) := by decide +kernel
theorem dL_law_933 : decode cL_law 933 = .ok (.ireturn, 1) := by decide +kernel
theorem dL_law_934 : decode cL_law 934 = .ok (.aload_n 1, 1) := by decide +kernel
theorem dL_law_935 : decode cL_law 935 = .ok (.aload_n 0, 1) := by decide +kernel
theorem dL_law_936 : decode cL_law 936 = .ok (.iload_n 3, 1) := by decide +kernel
theorem dL_law_937 : decode cL_law 937 = .ok (.iconst 1, 1) := by decide +kernel
theorem dL_law_938 : decode cL_law 938 = .ok (.iadd, 1) := by decide +kernel
theorem dL_law_939 : decode cL_law 939 = .ok (.iaload, 1) := by decide +kernel
theorem dL_law_940 : decode cL_law 940 = .ok (.aload_n 0, 1) := by decide +kernel
theorem dL_law_941 : decode cL_law 941 = .ok (.iload_n 3, 1) := by decide +kernel
theorem dL_law_942 : decode cL_law 942 = .ok (.iconst 2, 1) := by decide +kernel
theorem dL_law_943 : decode cL_law 943 = .ok (.iadd, 1) := by decide +kernel
theorem dL_law_944 : decode cL_law 944 = .ok (.iaload, 1) := by decide +kernel
theorem dL_law_945 : decode cL_law 945 = .ok (.aload_n 0, 1) := by decide +kernel
theorem dL_law_946 : decode cL_law 946 = .ok (.iload_n 3, 1) := by decide +kernel
theorem dL_law_947 : decode cL_law 947 = .ok (.iconst 3, 1) := by decide +kernel
theorem dL_law_948 : decode cL_law 948 = .ok (.iadd, 1) := by decide +kernel
theorem dL_law_949 : decode cL_law 949 = .ok (.iaload, 1) := by decide +kernel
theorem dL_law_950 : decode cL_law 950 = .ok (.invokevirtual 97, 3) := by decide +kernel
theorem dL_law_953 : decode cL_law 953 = .ok (.aload_n 2, 1) := by decide +kernel
theorem dL_law_954 : decode cL_law 954 = .ok (.aload_n 0, 1) := by decide +kernel
theorem dL_law_955 : decode cL_law 955 = .ok (.iload_n 3, 1) := by decide +kernel
theorem dL_law_956 : decode cL_law 956 = .ok (.iconst 1, 1) := by decide +kernel
theorem dL_law_957 : decode cL_law 957 = .ok (.iadd, 1) := by decide +kernel
theorem dL_law_958 : decode cL_law 958 = .ok (.iaload, 1) := by decide +kernel
theorem dL_law_959 : decode cL_law 959 = .ok (.aload_n 0, 1) := by decide +kernel
theorem dL_law_960 : decode cL_law 960 = .ok (.iload_n 3, 1) := by decide +kernel
theorem dL_law_961 : decode cL_law 961 = .ok (.iconst 2, 1) := by decide +kernel
theorem dL_law_962 : decode cL_law 962 = .ok (.iadd, 1) := by decide +kernel
theorem dL_law_963 : decode cL_law 963 = .ok (.iaload, 1) := by decide +kernel
theorem dL_law_964 : decode cL_law 964 = .ok (.aload_n 0, 1) := by decide +kernel
theorem dL_law_965 : decode cL_law 965 = .ok (.iload_n 3, 1) := by decide +kernel
theorem dL_law_966 : decode cL_law 966 = .ok (.iconst 3, 1) := by decide +kernel
theorem dL_law_967 : decode cL_law 967 = .ok (.iadd, 1) := by decide +kernel
theorem dL_law_968 : decode cL_law 968 = .ok (.iaload, 1) := by decide +kernel
theorem dL_law_969 : decode cL_law 969 = .ok (.invokevirtual 100, 3) := by decide +kernel
theorem dL_law_972 : decode cL_law 972 = .ok (.if_icmp .eq 665, 3) := by decide +kernel
theorem dL_law_975 : decode cL_law 975 = .ok (.iconst 0, 1) := by decide +kernel
theorem dL_law_976 : decode cL_law 976 = .ok (.ireturn, 1) := by decide +kernel
theorem dL_law_977 : decode cL_law 977 = .ok (.aload_n 1, 1) := by decide +kernel
theorem dL_law_978 : decode cL_law 978 = .ok (.aload_n 0, 1) := by decide +kernel
theorem dL_law_979 : decode cL_law 979 = .ok (.iload_n 3, 1) := by decide +kernel
theorem dL_law_980 : decode cL_law 980 = .ok (.iconst 1, 1) := by decide +kernel
theorem dL_law_981 : decode cL_law 981 = .ok (.iadd, 1) := by decide +kernel
theorem dL_law_982 : decode cL_law 982 = .ok (.iaload, 1) := by decide +kernel
theorem dL_law_983 : decode cL_law 983 = .ok (.aload_n 0, 1) := by decide +kernel
theorem dL_law_984 : decode cL_law 984 = .ok (.iload_n 3, 1) := by decide +kernel
theorem dL_law_985 : decode cL_law 985 = .ok (.iconst 2, 1) := by decide +kernel
theorem dL_law_986 : decode cL_law 986 = .ok (.iadd, 1) := by decide +kernel
theorem dL_law_987 : decode cL_law 987 = .ok (.iaload, 1) := by decide +kernel
theorem dL_law_988 : decode cL_law 988 = .ok (.aload_n 0, 1) := by decide +kernel
theorem dL_law_989 : decode cL_law 989 = .ok (.iload_n 3, 1) := by decide +kernel
theorem dL_law_990 : decode cL_law 990 = .ok (.iconst 3, 1) := by decide +kernel
theorem dL_law_991 : decode cL_law 991 = .ok (.iadd, 1) := by decide +kernel
theorem dL_law_992 : decode cL_law 992 = .ok (.iaload, 1) := by decide +kernel
theorem dL_law_993 : decode cL_law 993 = .ok (.invokevirtual 101, 3) := by decide +kernel
theorem dL_law_996 : decode cL_law 996 = .ok (.aload_n 2, 1) := by decide +kernel
theorem dL_law_997 : decode cL_law 997 = .ok (.aload_n 0, 1) := by decide +kernel
theorem dL_law_998 : decode cL_law 998 = .ok (.iload_n 3, 1) := by decide +kernel
theorem dL_law_999 : decode cL_law 999 = .ok (.iconst 1, 1) := by decide +kernel
theorem dL_law_1000 : decode cL_law 1000 = .ok (.iadd, 1) := by decide +kernel
theorem dL_law_1001 : decode cL_law 1001 = .ok (.iaload, 1) := by decide +kernel
theorem dL_law_1002 : decode cL_law 1002 = .ok (.aload_n 0, 1) := by decide +kernel
theorem dL_law_1003 : decode cL_law 1003 = .ok (.iload_n 3, 1) := by decide +kernel
theorem dL_law_1004 : decode cL_law 1004 = .ok (.iconst 2, 1) := by decide +kernel
theorem dL_law_1005 : decode cL_law 1005 = .ok (.iadd, 1) := by decide +kernel
theorem dL_law_1006 : decode cL_law 1006 = .ok (.iaload, 1) := by decide +kernel
theorem dL_law_1007 : decode cL_law 1007 = .ok (.aload_n 0, 1) := by decide +kernel
theorem dL_law_1008 : decode cL_law 1008 = .ok (.iload_n 3, 1) := by decide +kernel
theorem dL_law_1009 : decode cL_law 1009 = .ok (.iconst 3, 1) := by decide +kernel
theorem dL_law_1010 : decode cL_law 1010 = .ok (.iadd, 1) := by decide +kernel
theorem dL_law_1011 : decode cL_law 1011 = .ok (.iaload, 1) := by decide +kernel
theorem dL_law_1012 : decode cL_law 1012 = .ok (.invokevirtual 104, 3) := by decide +kernel
theorem dL_law_1015 : decode cL_law 1015 = .ok (.if_icmp .eq 622, 3) := by decide +kernel
theorem dL_law_1018 : decode cL_law 1018 = .ok (.iconst 0, 1) := by decide +kernel
theorem dL_law_1019 : decode cL_law 1019 = .ok (.ireturn, 1) := by decide +kernel
theorem dL_law_1020 : decode cL_law 1020 = .ok (.aload_n 1, 1) := by decide +kernel
theorem dL_law_1021 : decode cL_law 1021 = .ok (.aload_n 0, 1) := by decide +kernel
theorem dL_law_1022 : decode cL_law 1022 = .ok (.iload_n 3, 1) := by decide +kernel
theorem dL_law_1023 : decode cL_law 1023 = .ok (.iconst 1, 1) := by decide +kernel
theorem dL_law_1024 : decode cL_law 1024 = .ok (.iadd, 1) := by decide +kernel
theorem dL_law_1025 : decode cL_law 1025 = .ok (.iaload, 1) := by decide +kernel
theorem dL_law_1026 : decode cL_law 1026 = .ok (.aload_n 0, 1) := by decide +kernel
theorem dL_law_1027 : decode cL_law 1027 = .ok (.iload_n 3, 1) := by decide +kernel
theorem dL_law_1028 : decode cL_law 1028 = .ok (.iconst 2, 1) := by decide +kernel
theorem dL_law_1029 : decode cL_law 1029 = .ok (.iadd, 1) := by decide +kernel
theorem dL_law_1030 : decode cL_law 1030 = .ok (.iaload, 1) := by decide +kernel
theorem dL_law_1031 : decode cL_law 1031 = .ok (.invokevirtual 105, 3) := by decide +kernel
theorem dL_law_1034 : decode cL_law 1034 = .ok (.aload_n 2, 1) := by decide +kernel
theorem dL_law_1035 : decode cL_law 1035 = .ok (.aload_n 0, 1) := by decide +kernel
theorem dL_law_1036 : decode cL_law 1036 = .ok (.iload_n 3, 1) := by decide +kernel
theorem dL_law_1037 : decode cL_law 1037 = .ok (.iconst 1, 1) := by decide +kernel
theorem dL_law_1038 : decode cL_law 1038 = .ok (.iadd, 1) := by decide +kernel
theorem dL_law_1039 : decode cL_law 1039 = .ok (.iaload, 1) := by decide +kernel
theorem dL_law_1040 : decode cL_law 1040 = .ok (.aload_n 0, 1) := by decide +kernel
theorem dL_law_1041 : decode cL_law 1041 = .ok (.iload_n 3, 1) := by decide +kernel
theorem dL_law_1042 : decode cL_law 1042 = .ok (.iconst 2, 1) := by decide +kernel
theorem dL_law_1043 : decode cL_law 1043 = .ok (.iadd, 1) := by decide +kernel
theorem dL_law_1044 : decode cL_law 1044 = .ok (.iaload, 1) := by decide +kernel
theorem dL_law_1045 : decode cL_law 1045 = .ok (.invokevirtual 108, 3) := by decide +kernel
theorem dL_law_1048 : decode cL_law 1048 = .ok (.if_icmp .eq 589, 3) := by decide +kernel
theorem dL_law_1051 : decode cL_law 1051 = .ok (.iconst 0, 1) := by decide +kernel
theorem dL_law_1052 : decode cL_law 1052 = .ok (.ireturn, 1) := by decide +kernel
theorem dL_law_1053 : decode cL_law 1053 = .ok (.aload_n 1, 1) := by decide +kernel
theorem dL_law_1054 : decode cL_law 1054 = .ok (.aload_n 0, 1) := by decide +kernel
theorem dL_law_1055 : decode cL_law 1055 = .ok (.iload_n 3, 1) := by decide +kernel
theorem dL_law_1056 : decode cL_law 1056 = .ok (.iconst 1, 1) := by decide +kernel
theorem dL_law_1057 : decode cL_law 1057 = .ok (.iadd, 1) := by decide +kernel
theorem dL_law_1058 : decode cL_law 1058 = .ok (.iaload, 1) := by decide +kernel
theorem dL_law_1059 : decode cL_law 1059 = .ok (.invokevirtual 109, 3) := by decide +kernel
theorem dL_law_1062 : decode cL_law 1062 = .ok (.aload_n 2, 1) := by decide +kernel
theorem dL_law_1063 : decode cL_law 1063 = .ok (.aload_n 0, 1) := by decide +kernel
theorem dL_law_1064 : decode cL_law 1064 = .ok (.iload_n 3, 1) := by decide +kernel
theorem dL_law_1065 : decode cL_law 1065 = .ok (.iconst 1, 1) := by decide +kernel
theorem dL_law_1066 : decode cL_law 1066 = .ok (.iadd, 1) := by decide +kernel
theorem dL_law_1067 : decode cL_law 1067 = .ok (.iaload, 1) := by decide +kernel
theorem dL_law_1068 : decode cL_law 1068 = .ok (.invokevirtual 112, 3) := by decide +kernel
theorem dL_law_1071 : decode cL_law 1071 = .ok (.if_icmp .eq 566, 3) := by decide +kernel
theorem dL_law_1074 : decode cL_law 1074 = .ok (.iconst 0, 1) := by decide +kernel
theorem dL_law_1075 : decode cL_law 1075 = .ok (.ireturn, 1) := by decide +kernel
theorem dL_law_1076 : decode cL_law 1076 = .ok (.aload_n 1, 1) := by decide +kernel
theorem dL_law_1077 : decode cL_law 1077 = .ok (.aload_n 0, 1) := by decide +kernel
theorem dL_law_1078 : decode cL_law 1078 = .ok (.iload_n 3, 1) := by decide +kernel
theorem dL_law_1079 : decode cL_law 1079 = .ok (.iconst 1, 1) := by decide +kernel
theorem dL_law_1080 : decode cL_law 1080 = .ok (.iadd, 1) := by decide +kernel
theorem dL_law_1081 : decode cL_law 1081 = .ok (.iaload, 1) := by decide +kernel
theorem dL_law_1082 : decode cL_law 1082 = .ok (.aload_n 0, 1) := by decide +kernel
theorem dL_law_1083 : decode cL_law 1083 = .ok (.iload_n 3, 1) := by decide +kernel
theorem dL_law_1084 : decode cL_law 1084 = .ok (.iconst 2, 1) := by decide +kernel
theorem dL_law_1085 : decode cL_law 1085 = .ok (.iadd, 1) := by decide +kernel
theorem dL_law_1086 : decode cL_law 1086 = .ok (.iaload, 1) := by decide +kernel
theorem dL_law_1087 : decode cL_law 1087 = .ok (.aload_n 0, 1) := by decide +kernel
theorem dL_law_1088 : decode cL_law 1088 = .ok (.iload_n 3, 1) := by decide +kernel
theorem dL_law_1089 : decode cL_law 1089 = .ok (.iconst 3, 1) := by decide +kernel
theorem dL_law_1090 : decode cL_law 1090 = .ok (.iadd, 1) := by decide +kernel
theorem dL_law_1091 : decode cL_law 1091 = .ok (.iaload, 1) := by decide +kernel
theorem dL_law_1092 : decode cL_law 1092 = .ok (.invokevirtual 113, 3) := by decide +kernel
theorem dL_law_1095 : decode cL_law 1095 = .ok (.aload_n 2, 1) := by decide +kernel
theorem dL_law_1096 : decode cL_law 1096 = .ok (.aload_n 0, 1) := by decide +kernel
theorem dL_law_1097 : decode cL_law 1097 = .ok (.iload_n 3, 1) := by decide +kernel
theorem dL_law_1098 : decode cL_law 1098 = .ok (.iconst 1, 1) := by decide +kernel
theorem dL_law_1099 : decode cL_law 1099 = .ok (.iadd, 1) := by decide +kernel
theorem dL_law_1100 : decode cL_law 1100 = .ok (.iaload, 1) := by decide +kernel
theorem dL_law_1101 : decode cL_law 1101 = .ok (.aload_n 0, 1) := by decide +kernel
theorem dL_law_1102 : decode cL_law 1102 = .ok (.iload_n 3, 1) := by decide +kernel
theorem dL_law_1103 : decode cL_law 1103 = .ok (.iconst 2, 1) := by decide +kernel
theorem dL_law_1104 : decode cL_law 1104 = .ok (.iadd, 1) := by decide +kernel
theorem dL_law_1105 : decode cL_law 1105 = .ok (.iaload, 1) := by decide +kernel
theorem dL_law_1106 : decode cL_law 1106 = .ok (.aload_n 0, 1) := by decide +kernel
theorem dL_law_1107 : decode cL_law 1107 = .ok (.iload_n 3, 1) := by decide +kernel
theorem dL_law_1108 : decode cL_law 1108 = .ok (.iconst 3, 1) := by decide +kernel
theorem dL_law_1109 : decode cL_law 1109 = .ok (.iadd, 1) := by decide +kernel
theorem dL_law_1110 : decode cL_law 1110 = .ok (.iaload, 1) := by decide +kernel
theorem dL_law_1111 : decode cL_law 1111 = .ok (.invokevirtual 116, 3) := by decide +kernel
theorem dL_law_1114 : decode cL_law 1114 = .ok (.if_icmp .eq 523, 3) := by decide +kernel
theorem dL_law_1117 : decode cL_law 1117 = .ok (.iconst 0, 1) := by decide +kernel
theorem dL_law_1118 : decode cL_law 1118 = .ok (.ireturn, 1) := by decide +kernel
theorem dL_law_1119 : decode cL_law 1119 = .ok (.aload_n 1, 1) := by decide +kernel
theorem dL_law_1120 : decode cL_law 1120 = .ok (.aload_n 0, 1) := by decide +kernel
theorem dL_law_1121 : decode cL_law 1121 = .ok (.iload_n 3, 1) := by decide +kernel
theorem dL_law_1122 : decode cL_law 1122 = .ok (.iconst 1, 1) := by decide +kernel
theorem dL_law_1123 : decode cL_law 1123 = .ok (.iadd, 1) := by decide +kernel
theorem dL_law_1124 : decode cL_law 1124 = .ok (.iaload, 1) := by decide +kernel
theorem dL_law_1125 : decode cL_law 1125 = .ok (.aload_n 0, 1) := by decide +kernel
theorem dL_law_1126 : decode cL_law 1126 = .ok (.iload_n 3, 1) := by decide +kernel
theorem dL_law_1127 : decode cL_law 1127 = .ok (.iconst 2, 1) := by decide +kernel
theorem dL_law_1128 : decode cL_law 1128 = .ok (.iadd, 1) := by decide +kernel
theorem dL_law_1129 : decode cL_law 1129 = .ok (.iaload, 1) := by decide +kernel
theorem dL_law_1130 : decode cL_law 1130 = .ok (.invokevirtual 117, 3) := by decide +kernel
theorem dL_law_1133 : decode cL_law 1133 = .ok (.aload_n 2, 1) := by decide +kernel
theorem dL_law_1134 : decode cL_law 1134 = .ok (.aload_n 0, 1) := by decide +kernel
theorem dL_law_1135 : decode cL_law 1135 = .ok (.iload_n 3, 1) := by decide +kernel
theorem dL_law_1136 : decode cL_law 1136 = .ok (.iconst 1, 1) := by decide +kernel
theorem dL_law_1137 : decode cL_law 1137 = .ok (.iadd, 1) := by decide +kernel
theorem dL_law_1138 : decode cL_law 1138 = .ok (.iaload, 1) := by decide +kernel
theorem dL_law_1139 : decode cL_law 1139 = .ok (.aload_n 0, 1) := by decide +kernel
theorem dL_law_1140 : decode cL_law 1140 = .ok (.iload_n 3, 1) := by decide +kernel
theorem dL_law_1141 : decode cL_law 1141 = .ok (.iconst 2, 1) := by decide +kernel
theorem dL_law_1142 : decode cL_law 1142 = .ok (.iadd, 1) := by decide +kernel
theorem dL_law_1143 : decode cL_law 1143 = .ok (.iaload, 1) := by decide +kernel
theorem dL_law_1144 : decode cL_law 1144 = .ok (.invokevirtual 120, 3) := by decide +kernel
theorem dL_law_1147 : decode cL_law 1147 = .ok (.if_icmp .eq 490, 3) := by decide +kernel
theorem dL_law_1150 : decode cL_law 1150 = .ok (.iconst 0, 1) := by decide +kernel
theorem dL_law_1151 : decode cL_law 1151 = .ok (.ireturn, 1) := by decide +kernel
theorem dL_law_1152 : decode cL_law 1152 = .ok (.aload_n 1, 1) := by decide +kernel
theorem dL_law_1153 : decode cL_law 1153 = .ok (.aload_n 0, 1) := by decide +kernel
theorem dL_law_1154 : decode cL_law 1154 = .ok (.iload_n 3, 1) := by decide +kernel
theorem dL_law_1155 : decode cL_law 1155 = .ok (.iconst 1, 1) := by decide +kernel
theorem dL_law_1156 : decode cL_law 1156 = .ok (.iadd, 1) := by decide +kernel
theorem dL_law_1157 : decode cL_law 1157 = .ok (.iaload, 1) := by decide +kernel
theorem dL_law_1158 : decode cL_law 1158 = .ok (.invokevirtual 121, 3) := by decide +kernel
theorem dL_law_1161 : decode cL_law 1161 = .ok (.aload_n 2, 1) := by decide +kernel
theorem dL_law_1162 : decode cL_law 1162 = .ok (.aload_n 0, 1) := by decide +kernel
theorem dL_law_1163 : decode cL_law 1163 = .ok (.iload_n 3, 1) := by decide +kernel
theorem dL_law_1164 : decode cL_law 1164 = .ok (.iconst 1, 1) := by decide +kernel
theorem dL_law_1165 : decode cL_law 1165 = .ok (.iadd, 1) := by decide +kernel
theorem dL_law_1166 : decode cL_law 1166 = .ok (.iaload, 1) := by decide +kernel
theorem dL_law_1167 : decode cL_law 1167 = .ok (.invokevirtual 124, 3) := by decide +kernel
theorem dL_law_1170 : decode cL_law 1170 = .ok (.if_icmp .eq 467, 3) := by decide +kernel
theorem dL_law_1173 : decode cL_law 1173 = .ok (.iconst 0, 1) := by decide +kernel
theorem dL_law_1174 : decode cL_law 1174 = .ok (.ireturn, 1) := by decide +kernel
theorem dL_law_1175 : decode cL_law 1175 = .ok (.aload_n 1, 1) := by decide +kernel
theorem dL_law_1176 : decode cL_law 1176 = .ok (.aload_n 0, 1) := by decide +kernel
theorem dL_law_1177 : decode cL_law 1177 = .ok (.iload_n 3, 1) := by decide +kernel
theorem dL_law_1178 : decode cL_law 1178 = .ok (.iconst 1, 1) := by decide +kernel
theorem dL_law_1179 : decode cL_law 1179 = .ok (.iadd, 1) := by decide +kernel
theorem dL_law_1180 : decode cL_law 1180 = .ok (.iaload, 1) := by decide +kernel
theorem dL_law_1181 : decode cL_law 1181 = .ok (.aload_n 0, 1) := by decide +kernel
theorem dL_law_1182 : decode cL_law 1182 = .ok (.iload_n 3, 1) := by decide +kernel
theorem dL_law_1183 : decode cL_law 1183 = .ok (.iconst 2, 1) := by decide +kernel
theorem dL_law_1184 : decode cL_law 1184 = .ok (.iadd, 1) := by decide +kernel
theorem dL_law_1185 : decode cL_law 1185 = .ok (.iaload, 1) := by decide +kernel
theorem dL_law_1186 : decode cL_law 1186 = .ok (.invokevirtual 125, 3) := by decide +kernel
theorem dL_law_1189 : decode cL_law 1189 = .ok (.aload_n 2, 1) := by decide +kernel
theorem dL_law_1190 : decode cL_law 1190 = .ok (.aload_n 0, 1) := by decide +kernel
theorem dL_law_1191 : decode cL_law 1191 = .ok (.iload_n 3, 1) := by decide +kernel
theorem dL_law_1192 : decode cL_law 1192 = .ok (.iconst 1, 1) := by decide +kernel
theorem dL_law_1193 : decode cL_law 1193 = .ok (.iadd, 1) := by decide +kernel
theorem dL_law_1194 : decode cL_law 1194 = .ok (.iaload, 1) := by decide +kernel
theorem dL_law_1195 : decode cL_law 1195 = .ok (.aload_n 0, 1) := by decide +kernel
theorem dL_law_1196 : decode cL_law 1196 = .ok (.iload_n 3, 1) := by decide +kernel
theorem dL_law_1197 : decode cL_law 1197 = .ok (.iconst 2, 1) := by decide +kernel
theorem dL_law_1198 : decode cL_law 1198 = .ok (.iadd, 1) := by decide +kernel
theorem dL_law_1199 : decode cL_law 1199 = .ok (.iaload, 1) := by decide +kernel
theorem dL_law_1200 : decode cL_law 1200 = .ok (.invokevirtual 129, 3) := by decide +kernel
theorem dL_law_1203 : decode cL_law 1203 = .ok (.lcmp, 1) := by decide +kernel
theorem dL_law_1204 : decode cL_law 1204 = .ok (.ifCond .eq 433, 3) := by decide +kernel
theorem dL_law_1207 : decode cL_law 1207 = .ok (.iconst 0, 1) := by decide +kernel
theorem dL_law_1208 : decode cL_law 1208 = .ok (.ireturn, 1) := by decide +kernel
theorem dL_law_1209 : decode cL_law 1209 = .ok (.aload_n 1, 1) := by decide +kernel
theorem dL_law_1210 : decode cL_law 1210 = .ok (.aload_n 0, 1) := by decide +kernel
theorem dL_law_1211 : decode cL_law 1211 = .ok (.iload_n 3, 1) := by decide +kernel
theorem dL_law_1212 : decode cL_law 1212 = .ok (.iconst 1, 1) := by decide +kernel
theorem dL_law_1213 : decode cL_law 1213 = .ok (.iadd, 1) := by decide +kernel
theorem dL_law_1214 : decode cL_law 1214 = .ok (.iaload, 1) := by decide +kernel
theorem dL_law_1215 : decode cL_law 1215 = .ok (.invokevirtual 130, 3) := by decide +kernel
theorem dL_law_1218 : decode cL_law 1218 = .ok (.aload_n 2, 1) := by decide +kernel
theorem dL_law_1219 : decode cL_law 1219 = .ok (.aload_n 0, 1) := by decide +kernel
theorem dL_law_1220 : decode cL_law 1220 = .ok (.iload_n 3, 1) := by decide +kernel
theorem dL_law_1221 : decode cL_law 1221 = .ok (.iconst 1, 1) := by decide +kernel
theorem dL_law_1222 : decode cL_law 1222 = .ok (.iadd, 1) := by decide +kernel
theorem dL_law_1223 : decode cL_law 1223 = .ok (.iaload, 1) := by decide +kernel
theorem dL_law_1224 : decode cL_law 1224 = .ok (.invokevirtual 133, 3) := by decide +kernel
theorem dL_law_1227 : decode cL_law 1227 = .ok (.if_icmp .eq 410, 3) := by decide +kernel
theorem dL_law_1230 : decode cL_law 1230 = .ok (.iconst 0, 1) := by decide +kernel
theorem dL_law_1231 : decode cL_law 1231 = .ok (.ireturn, 1) := by decide +kernel
theorem dL_law_1232 : decode cL_law 1232 = .ok (.aload_n 1, 1) := by decide +kernel
theorem dL_law_1233 : decode cL_law 1233 = .ok (.aload_n 0, 1) := by decide +kernel
theorem dL_law_1234 : decode cL_law 1234 = .ok (.iload_n 3, 1) := by decide +kernel
theorem dL_law_1235 : decode cL_law 1235 = .ok (.iconst 1, 1) := by decide +kernel
theorem dL_law_1236 : decode cL_law 1236 = .ok (.iadd, 1) := by decide +kernel
theorem dL_law_1237 : decode cL_law 1237 = .ok (.iaload, 1) := by decide +kernel
theorem dL_law_1238 : decode cL_law 1238 = .ok (.aload_n 0, 1) := by decide +kernel
theorem dL_law_1239 : decode cL_law 1239 = .ok (.iload_n 3, 1) := by decide +kernel
theorem dL_law_1240 : decode cL_law 1240 = .ok (.iconst 2, 1) := by decide +kernel
theorem dL_law_1241 : decode cL_law 1241 = .ok (.iadd, 1) := by decide +kernel
theorem dL_law_1242 : decode cL_law 1242 = .ok (.iaload, 1) := by decide +kernel
theorem dL_law_1243 : decode cL_law 1243 = .ok (.invokevirtual 134, 3) := by decide +kernel
theorem dL_law_1246 : decode cL_law 1246 = .ok (.aload_n 2, 1) := by decide +kernel
theorem dL_law_1247 : decode cL_law 1247 = .ok (.aload_n 0, 1) := by decide +kernel
theorem dL_law_1248 : decode cL_law 1248 = .ok (.iload_n 3, 1) := by decide +kernel
theorem dL_law_1249 : decode cL_law 1249 = .ok (.iconst 1, 1) := by decide +kernel
theorem dL_law_1250 : decode cL_law 1250 = .ok (.iadd, 1) := by decide +kernel
theorem dL_law_1251 : decode cL_law 1251 = .ok (.iaload, 1) := by decide +kernel
theorem dL_law_1252 : decode cL_law 1252 = .ok (.aload_n 0, 1) := by decide +kernel
theorem dL_law_1253 : decode cL_law 1253 = .ok (.iload_n 3, 1) := by decide +kernel
theorem dL_law_1254 : decode cL_law 1254 = .ok (.iconst 2, 1) := by decide +kernel
theorem dL_law_1255 : decode cL_law 1255 = .ok (.iadd, 1) := by decide +kernel
theorem dL_law_1256 : decode cL_law 1256 = .ok (.iaload, 1) := by decide +kernel
theorem dL_law_1257 : decode cL_law 1257 = .ok (.invokevirtual 137, 3) := by decide +kernel
theorem dL_law_1260 : decode cL_law 1260 = .ok (.if_icmp .eq 377, 3) := by decide +kernel
theorem dL_law_1263 : decode cL_law 1263 = .ok (.iconst 0, 1) := by decide +kernel
theorem dL_law_1264 : decode cL_law 1264 = .ok (.ireturn, 1) := by decide +kernel
theorem dL_law_1265 : decode cL_law 1265 = .ok (.aload_n 1, 1) := by decide +kernel
theorem dL_law_1266 : decode cL_law 1266 = .ok (.invokevirtual 138, 3) := by decide +kernel
theorem dL_law_1269 : decode cL_law 1269 = .ok (.aload_n 2, 1) := by decide +kernel
theorem dL_law_1270 : decode cL_law 1270 = .ok (.invokevirtual 142, 3) := by decide +kernel
theorem dL_law_1273 : decode cL_law 1273 = .ok (.if_icmp .eq 364, 3) := by decide +kernel
theorem dL_law_1276 : decode cL_law 1276 = .ok (.iconst 0, 1) := by decide +kernel
theorem dL_law_1277 : decode cL_law 1277 = .ok (.ireturn, 1) := by decide +kernel
theorem dL_law_1278 : decode cL_law 1278 = .ok (.aload_n 1, 1) := by decide +kernel
theorem dL_law_1279 : decode cL_law 1279 = .ok (.invokevirtual 143, 3) := by decide +kernel
theorem dL_law_1282 : decode cL_law 1282 = .ok (.aload_n 2, 1) := by decide +kernel
theorem dL_law_1283 : decode cL_law 1283 = .ok (.invokevirtual 146, 3) := by decide +kernel
theorem dL_law_1286 : decode cL_law 1286 = .ok (.if_icmp .eq 351, 3) := by decide +kernel
theorem dL_law_1289 : decode cL_law 1289 = .ok (.iconst 0, 1) := by decide +kernel
theorem dL_law_1290 : decode cL_law 1290 = .ok (.ireturn, 1) := by decide +kernel
theorem dL_law_1291 : decode cL_law 1291 = .ok (.aload_n 1, 1) := by decide +kernel
theorem dL_law_1292 : decode cL_law 1292 = .ok (.aload_n 0, 1) := by decide +kernel
theorem dL_law_1293 : decode cL_law 1293 = .ok (.iload_n 3, 1) := by decide +kernel
theorem dL_law_1294 : decode cL_law 1294 = .ok (.iconst 1, 1) := by decide +kernel
theorem dL_law_1295 : decode cL_law 1295 = .ok (.iadd, 1) := by decide +kernel
theorem dL_law_1296 : decode cL_law 1296 = .ok (.iaload, 1) := by decide +kernel
theorem dL_law_1297 : decode cL_law 1297 = .ok (.aload_n 0, 1) := by decide +kernel
theorem dL_law_1298 : decode cL_law 1298 = .ok (.iload_n 3, 1) := by decide +kernel
theorem dL_law_1299 : decode cL_law 1299 = .ok (.iconst 2, 1) := by decide +kernel
theorem dL_law_1300 : decode cL_law 1300 = .ok (.iadd, 1) := by decide +kernel
theorem dL_law_1301 : decode cL_law 1301 = .ok (.iaload, 1) := by decide +kernel
theorem dL_law_1302 : decode cL_law 1302 = .ok (.invokevirtual 147, 3) := by decide +kernel
theorem dL_law_1305 : decode cL_law 1305 = .ok (.aload_n 2, 1) := by decide +kernel
theorem dL_law_1306 : decode cL_law 1306 = .ok (.aload_n 0, 1) := by decide +kernel
theorem dL_law_1307 : decode cL_law 1307 = .ok (.iload_n 3, 1) := by decide +kernel
theorem dL_law_1308 : decode cL_law 1308 = .ok (.iconst 1, 1) := by decide +kernel
theorem dL_law_1309 : decode cL_law 1309 = .ok (.iadd, 1) := by decide +kernel
theorem dL_law_1310 : decode cL_law 1310 = .ok (.iaload, 1) := by decide +kernel
theorem dL_law_1311 : decode cL_law 1311 = .ok (.aload_n 0, 1) := by decide +kernel
theorem dL_law_1312 : decode cL_law 1312 = .ok (.iload_n 3, 1) := by decide +kernel
theorem dL_law_1313 : decode cL_law 1313 = .ok (.iconst 2, 1) := by decide +kernel
theorem dL_law_1314 : decode cL_law 1314 = .ok (.iadd, 1) := by decide +kernel
theorem dL_law_1315 : decode cL_law 1315 = .ok (.iaload, 1) := by decide +kernel
theorem dL_law_1316 : decode cL_law 1316 = .ok (.invokevirtual 150, 3) := by decide +kernel
theorem dL_law_1319 : decode cL_law 1319 = .ok (.if_icmp .eq 318, 3) := by decide +kernel
theorem dL_law_1322 : decode cL_law 1322 = .ok (.iconst 0, 1) := by decide +kernel
theorem dL_law_1323 : decode cL_law 1323 = .ok (.ireturn, 1) := by decide +kernel
theorem dL_law_1324 : decode cL_law 1324 = .ok (.aload_n 1, 1) := by decide +kernel
theorem dL_law_1325 : decode cL_law 1325 = .ok (.aload_n 0, 1) := by decide +kernel
theorem dL_law_1326 : decode cL_law 1326 = .ok (.iload_n 3, 1) := by decide +kernel
theorem dL_law_1327 : decode cL_law 1327 = .ok (.iconst 1, 1) := by decide +kernel
theorem dL_law_1328 : decode cL_law 1328 = .ok (.iadd, 1) := by decide +kernel
theorem dL_law_1329 : decode cL_law 1329 = .ok (.iaload, 1) := by decide +kernel
theorem dL_law_1330 : decode cL_law 1330 = .ok (.aload_n 0, 1) := by decide +kernel
theorem dL_law_1331 : decode cL_law 1331 = .ok (.iload_n 3, 1) := by decide +kernel
theorem dL_law_1332 : decode cL_law 1332 = .ok (.iconst 2, 1) := by decide +kernel
theorem dL_law_1333 : decode cL_law 1333 = .ok (.iadd, 1) := by decide +kernel
theorem dL_law_1334 : decode cL_law 1334 = .ok (.iaload, 1) := by decide +kernel
theorem dL_law_1335 : decode cL_law 1335 = .ok (.invokevirtual 151, 3) := by decide +kernel
theorem dL_law_1338 : decode cL_law 1338 = .ok (.aload_n 2, 1) := by decide +kernel
theorem dL_law_1339 : decode cL_law 1339 = .ok (.aload_n 0, 1) := by decide +kernel
theorem dL_law_1340 : decode cL_law 1340 = .ok (.iload_n 3, 1) := by decide +kernel
theorem dL_law_1341 : decode cL_law 1341 = .ok (.iconst 1, 1) := by decide +kernel
theorem dL_law_1342 : decode cL_law 1342 = .ok (.iadd, 1) := by decide +kernel
theorem dL_law_1343 : decode cL_law 1343 = .ok (.iaload, 1) := by decide +kernel
theorem dL_law_1344 : decode cL_law 1344 = .ok (.aload_n 0, 1) := by decide +kernel
theorem dL_law_1345 : decode cL_law 1345 = .ok (.iload_n 3, 1) := by decide +kernel
theorem dL_law_1346 : decode cL_law 1346 = .ok (.iconst 2, 1) := by decide +kernel
theorem dL_law_1347 : decode cL_law 1347 = .ok (.iadd, 1) := by decide +kernel
theorem dL_law_1348 : decode cL_law 1348 = .ok (.iaload, 1) := by decide +kernel
theorem dL_law_1349 : decode cL_law 1349 = .ok (.invokevirtual 154, 3) := by decide +kernel
theorem dL_law_1352 : decode cL_law 1352 = .ok (.if_icmp .eq 285, 3) := by decide +kernel
theorem dL_law_1355 : decode cL_law 1355 = .ok (.iconst 0, 1) := by decide +kernel
theorem dL_law_1356 : decode cL_law 1356 = .ok (.ireturn, 1) := by decide +kernel
theorem dL_law_1357 : decode cL_law 1357 = .ok (.aload_n 1, 1) := by decide +kernel
theorem dL_law_1358 : decode cL_law 1358 = .ok (.aload_n 0, 1) := by decide +kernel
theorem dL_law_1359 : decode cL_law 1359 = .ok (.iload_n 3, 1) := by decide +kernel
theorem dL_law_1360 : decode cL_law 1360 = .ok (.iconst 1, 1) := by decide +kernel
theorem dL_law_1361 : decode cL_law 1361 = .ok (.iadd, 1) := by decide +kernel
theorem dL_law_1362 : decode cL_law 1362 = .ok (.iaload, 1) := by decide +kernel
theorem dL_law_1363 : decode cL_law 1363 = .ok (.aload_n 0, 1) := by decide +kernel
theorem dL_law_1364 : decode cL_law 1364 = .ok (.iload_n 3, 1) := by decide +kernel
theorem dL_law_1365 : decode cL_law 1365 = .ok (.iconst 2, 1) := by decide +kernel
theorem dL_law_1366 : decode cL_law 1366 = .ok (.iadd, 1) := by decide +kernel
theorem dL_law_1367 : decode cL_law 1367 = .ok (.iaload, 1) := by decide +kernel
theorem dL_law_1368 : decode cL_law 1368 = .ok (.aload_n 0, 1) := by decide +kernel
theorem dL_law_1369 : decode cL_law 1369 = .ok (.iload_n 3, 1) := by decide +kernel
theorem dL_law_1370 : decode cL_law 1370 = .ok (.iconst 3, 1) := by decide +kernel
theorem dL_law_1371 : decode cL_law 1371 = .ok (.iadd, 1) := by decide +kernel
theorem dL_law_1372 : decode cL_law 1372 = .ok (.iaload, 1) := by decide +kernel
theorem dL_law_1373 : decode cL_law 1373 = .ok (.invokevirtual 155, 3) := by decide +kernel
theorem dL_law_1376 : decode cL_law 1376 = .ok (.aload_n 2, 1) := by decide +kernel
theorem dL_law_1377 : decode cL_law 1377 = .ok (.aload_n 0, 1) := by decide +kernel
theorem dL_law_1378 : decode cL_law 1378 = .ok (.iload_n 3, 1) := by decide +kernel
theorem dL_law_1379 : decode cL_law 1379 = .ok (.iconst 1, 1) := by decide +kernel
theorem dL_law_1380 : decode cL_law 1380 = .ok (.iadd, 1) := by decide +kernel
theorem dL_law_1381 : decode cL_law 1381 = .ok (.iaload, 1) := by decide +kernel
theorem dL_law_1382 : decode cL_law 1382 = .ok (.aload_n 0, 1) := by decide +kernel
theorem dL_law_1383 : decode cL_law 1383 = .ok (.iload_n 3, 1) := by decide +kernel
theorem dL_law_1384 : decode cL_law 1384 = .ok (.iconst 2, 1) := by decide +kernel
theorem dL_law_1385 : decode cL_law 1385 = .ok (.iadd, 1) := by decide +kernel
theorem dL_law_1386 : decode cL_law 1386 = .ok (.iaload, 1) := by decide +kernel
theorem dL_law_1387 : decode cL_law 1387 = .ok (.aload_n 0, 1) := by decide +kernel
theorem dL_law_1388 : decode cL_law 1388 = .ok (.iload_n 3, 1) := by decide +kernel
theorem dL_law_1389 : decode cL_law 1389 = .ok (.iconst 3, 1) := by decide +kernel
theorem dL_law_1390 : decode cL_law 1390 = .ok (.iadd, 1) := by decide +kernel
theorem dL_law_1391 : decode cL_law 1391 = .ok (.iaload, 1) := by decide +kernel
theorem dL_law_1392 : decode cL_law 1392 = .ok (.invokevirtual 158, 3) := by decide +kernel
theorem dL_law_1395 : decode cL_law 1395 = .ok (.if_icmp .eq 242, 3) := by decide +kernel
theorem dL_law_1398 : decode cL_law 1398 = .ok (.iconst 0, 1) := by decide +kernel
theorem dL_law_1399 : decode cL_law 1399 = .ok (.ireturn, 1) := by decide +kernel
theorem dL_law_1400 : decode cL_law 1400 = .ok (.aload_n 1, 1) := by decide +kernel
theorem dL_law_1401 : decode cL_law 1401 = .ok (.aload_n 0, 1) := by decide +kernel
theorem dL_law_1402 : decode cL_law 1402 = .ok (.iload_n 3, 1) := by decide +kernel
theorem dL_law_1403 : decode cL_law 1403 = .ok (.iconst 1, 1) := by decide +kernel
theorem dL_law_1404 : decode cL_law 1404 = .ok (.iadd, 1) := by decide +kernel
theorem dL_law_1405 : decode cL_law 1405 = .ok (.iaload, 1) := by decide +kernel
theorem dL_law_1406 : decode cL_law 1406 = .ok (.aload_n 0, 1) := by decide +kernel
theorem dL_law_1407 : decode cL_law 1407 = .ok (.iload_n 3, 1) := by decide +kernel
theorem dL_law_1408 : decode cL_law 1408 = .ok (.iconst 2, 1) := by decide +kernel
theorem dL_law_1409 : decode cL_law 1409 = .ok (.iadd, 1) := by decide +kernel
theorem dL_law_1410 : decode cL_law 1410 = .ok (.iaload, 1) := by decide +kernel
theorem dL_law_1411 : decode cL_law 1411 = .ok (.aload_n 0, 1) := by decide +kernel
theorem dL_law_1412 : decode cL_law 1412 = .ok (.iload_n 3, 1) := by decide +kernel
theorem dL_law_1413 : decode cL_law 1413 = .ok (.iconst 3, 1) := by decide +kernel
theorem dL_law_1414 : decode cL_law 1414 = .ok (.iadd, 1) := by decide +kernel
theorem dL_law_1415 : decode cL_law 1415 = .ok (.iaload, 1) := by decide +kernel
theorem dL_law_1416 : decode cL_law 1416 = .ok (.invokevirtual 159, 3) := by decide +kernel
theorem dL_law_1419 : decode cL_law 1419 = .ok (.aload_n 2, 1) := by decide +kernel
theorem dL_law_1420 : decode cL_law 1420 = .ok (.aload_n 0, 1) := by decide +kernel
theorem dL_law_1421 : decode cL_law 1421 = .ok (.iload_n 3, 1) := by decide +kernel
theorem dL_law_1422 : decode cL_law 1422 = .ok (.iconst 1, 1) := by decide +kernel
theorem dL_law_1423 : decode cL_law 1423 = .ok (.iadd, 1) := by decide +kernel
theorem dL_law_1424 : decode cL_law 1424 = .ok (.iaload, 1) := by decide +kernel
theorem dL_law_1425 : decode cL_law 1425 = .ok (.aload_n 0, 1) := by decide +kernel
theorem dL_law_1426 : decode cL_law 1426 = .ok (.iload_n 3, 1) := by decide +kernel
theorem dL_law_1427 : decode cL_law 1427 = .ok (.iconst 2, 1) := by decide +kernel
theorem dL_law_1428 : decode cL_law 1428 = .ok (.iadd, 1) := by decide +kernel
theorem dL_law_1429 : decode cL_law 1429 = .ok (.iaload, 1) := by decide +kernel
theorem dL_law_1430 : decode cL_law 1430 = .ok (.aload_n 0, 1) := by decide +kernel
theorem dL_law_1431 : decode cL_law 1431 = .ok (.iload_n 3, 1) := by decide +kernel
theorem dL_law_1432 : decode cL_law 1432 = .ok (.iconst 3, 1) := by decide +kernel
theorem dL_law_1433 : decode cL_law 1433 = .ok (.iadd, 1) := by decide +kernel
theorem dL_law_1434 : decode cL_law 1434 = .ok (.iaload, 1) := by decide +kernel
theorem dL_law_1435 : decode cL_law 1435 = .ok (.invokevirtual 162, 3) := by decide +kernel
theorem dL_law_1438 : decode cL_law 1438 = .ok (.if_icmp .eq 199, 3) := by decide +kernel
theorem dL_law_1441 : decode cL_law 1441 = .ok (.iconst 0, 1) := by decide +kernel
theorem dL_law_1442 : decode cL_law 1442 = .ok (.ireturn, 1) := by decide +kernel
theorem dL_law_1443 : decode cL_law 1443 = .ok (.aload_n 1, 1) := by decide +kernel
theorem dL_law_1444 : decode cL_law 1444 = .ok (.aload_n 0, 1) := by decide +kernel
theorem dL_law_1445 : decode cL_law 1445 = .ok (.iload_n 3, 1) := by decide +kernel
theorem dL_law_1446 : decode cL_law 1446 = .ok (.iconst 1, 1) := by decide +kernel
theorem dL_law_1447 : decode cL_law 1447 = .ok (.iadd, 1) := by decide +kernel
theorem dL_law_1448 : decode cL_law 1448 = .ok (.iaload, 1) := by decide +kernel
theorem dL_law_1449 : decode cL_law 1449 = .ok (.aload_n 0, 1) := by decide +kernel
theorem dL_law_1450 : decode cL_law 1450 = .ok (.iload_n 3, 1) := by decide +kernel
theorem dL_law_1451 : decode cL_law 1451 = .ok (.iconst 2, 1) := by decide +kernel
theorem dL_law_1452 : decode cL_law 1452 = .ok (.iadd, 1) := by decide +kernel
theorem dL_law_1453 : decode cL_law 1453 = .ok (.iaload, 1) := by decide +kernel
theorem dL_law_1454 : decode cL_law 1454 = .ok (.aload_n 0, 1) := by decide +kernel
theorem dL_law_1455 : decode cL_law 1455 = .ok (.iload_n 3, 1) := by decide +kernel
theorem dL_law_1456 : decode cL_law 1456 = .ok (.iconst 3, 1) := by decide +kernel
theorem dL_law_1457 : decode cL_law 1457 = .ok (.iadd, 1) := by decide +kernel
theorem dL_law_1458 : decode cL_law 1458 = .ok (.iaload, 1) := by decide +kernel
theorem dL_law_1459 : decode cL_law 1459 = .ok (.aload_n 0, 1) := by decide +kernel
theorem dL_law_1460 : decode cL_law 1460 = .ok (.iload_n 3, 1) := by decide +kernel
theorem dL_law_1461 : decode cL_law 1461 = .ok (.iconst 4, 1) := by decide +kernel
theorem dL_law_1462 : decode cL_law 1462 = .ok (.iadd, 1) := by decide +kernel
theorem dL_law_1463 : decode cL_law 1463 = .ok (.iaload, 1) := by decide +kernel
theorem dL_law_1464 : decode cL_law 1464 = .ok (.aload_n 0, 1) := by decide +kernel
theorem dL_law_1465 : decode cL_law 1465 = .ok (.iload_n 3, 1) := by decide +kernel
theorem dL_law_1466 : decode cL_law 1466 = .ok (.iconst 5, 1) := by decide +kernel
theorem dL_law_1467 : decode cL_law 1467 = .ok (.iadd, 1) := by decide +kernel
theorem dL_law_1468 : decode cL_law 1468 = .ok (.iaload, 1) := by decide +kernel
theorem dL_law_1469 : decode cL_law 1469 = .ok (.invokevirtual 163, 3) := by decide +kernel
theorem dL_law_1472 : decode cL_law 1472 = .ok (.aload_n 2, 1) := by decide +kernel
theorem dL_law_1473 : decode cL_law 1473 = .ok (.aload_n 0, 1) := by decide +kernel
theorem dL_law_1474 : decode cL_law 1474 = .ok (.iload_n 3, 1) := by decide +kernel
theorem dL_law_1475 : decode cL_law 1475 = .ok (.iconst 1, 1) := by decide +kernel
theorem dL_law_1476 : decode cL_law 1476 = .ok (.iadd, 1) := by decide +kernel
theorem dL_law_1477 : decode cL_law 1477 = .ok (.iaload, 1) := by decide +kernel
theorem dL_law_1478 : decode cL_law 1478 = .ok (.aload_n 0, 1) := by decide +kernel
theorem dL_law_1479 : decode cL_law 1479 = .ok (.iload_n 3, 1) := by decide +kernel
theorem dL_law_1480 : decode cL_law 1480 = .ok (.iconst 2, 1) := by decide +kernel
theorem dL_law_1481 : decode cL_law 1481 = .ok (.iadd, 1) := by decide +kernel
theorem dL_law_1482 : decode cL_law 1482 = .ok (.iaload, 1) := by decide +kernel
theorem dL_law_1483 : decode cL_law 1483 = .ok (.aload_n 0, 1) := by decide +kernel
theorem dL_law_1484 : decode cL_law 1484 = .ok (.iload_n 3, 1) := by decide +kernel
theorem dL_law_1485 : decode cL_law 1485 = .ok (.iconst 3, 1) := by decide +kernel
theorem dL_law_1486 : decode cL_law 1486 = .ok (.iadd, 1) := by decide +kernel
theorem dL_law_1487 : decode cL_law 1487 = .ok (.iaload, 1) := by decide +kernel
theorem dL_law_1488 : decode cL_law 1488 = .ok (.aload_n 0, 1) := by decide +kernel
theorem dL_law_1489 : decode cL_law 1489 = .ok (.iload_n 3, 1) := by decide +kernel
theorem dL_law_1490 : decode cL_law 1490 = .ok (.iconst 4, 1) := by decide +kernel
theorem dL_law_1491 : decode cL_law 1491 = .ok (.iadd, 1) := by decide +kernel
theorem dL_law_1492 : decode cL_law 1492 = .ok (.iaload, 1) := by decide +kernel
theorem dL_law_1493 : decode cL_law 1493 = .ok (.aload_n 0, 1) := by decide +kernel
theorem dL_law_1494 : decode cL_law 1494 = .ok (.iload_n 3, 1) := by decide +kernel
theorem dL_law_1495 : decode cL_law 1495 = .ok (.iconst 5, 1) := by decide +kernel
theorem dL_law_1496 : decode cL_law 1496 = .ok (.iadd, 1) := by decide +kernel
theorem dL_law_1497 : decode cL_law 1497 = .ok (.iaload, 1) := by decide +kernel
theorem dL_law_1498 : decode cL_law 1498 = .ok (.invokevirtual 167, 3) := by decide +kernel
theorem dL_law_1501 : decode cL_law 1501 = .ok (.if_icmp .eq 136, 3) := by decide +kernel
theorem dL_law_1504 : decode cL_law 1504 = .ok (.iconst 0, 1) := by decide +kernel
theorem dL_law_1505 : decode cL_law 1505 = .ok (.ireturn, 1) := by decide +kernel
theorem dL_law_1506 : decode cL_law 1506 = .ok (.aload_n 1, 1) := by decide +kernel
theorem dL_law_1507 : decode cL_law 1507 = .ok (.aload_n 0, 1) := by decide +kernel
theorem dL_law_1508 : decode cL_law 1508 = .ok (.iload_n 3, 1) := by decide +kernel
theorem dL_law_1509 : decode cL_law 1509 = .ok (.iconst 1, 1) := by decide +kernel
theorem dL_law_1510 : decode cL_law 1510 = .ok (.iadd, 1) := by decide +kernel
theorem dL_law_1511 : decode cL_law 1511 = .ok (.iaload, 1) := by decide +kernel
theorem dL_law_1512 : decode cL_law 1512 = .ok (.invokevirtual 168, 3) := by decide +kernel
theorem dL_law_1515 : decode cL_law 1515 = .ok (.aload_n 2, 1) := by decide +kernel
theorem dL_law_1516 : decode cL_law 1516 = .ok (.aload_n 0, 1) := by decide +kernel
theorem dL_law_1517 : decode cL_law 1517 = .ok (.iload_n 3, 1) := by decide +kernel
theorem dL_law_1518 : decode cL_law 1518 = .ok (.iconst 1, 1) := by decide +kernel
theorem dL_law_1519 : decode cL_law 1519 = .ok (.iadd, 1) := by decide +kernel
theorem dL_law_1520 : decode cL_law 1520 = .ok (.iaload, 1) := by decide +kernel
theorem dL_law_1521 : decode cL_law 1521 = .ok (.invokevirtual 171, 3) := by decide +kernel
theorem dL_law_1524 : decode cL_law 1524 = .ok (.if_icmp .eq 113, 3) := by decide +kernel
theorem dL_law_1527 : decode cL_law 1527 = .ok (.iconst 0, 1) := by decide +kernel
theorem dL_law_1528 : decode cL_law 1528 = .ok (.ireturn, 1) := by decide +kernel
theorem dL_law_1529 : decode cL_law 1529 = .ok (.aload_n 1, 1) := by decide +kernel
theorem dL_law_1530 : decode cL_law 1530 = .ok (.aload_n 0, 1) := by decide +kernel
theorem dL_law_1531 : decode cL_law 1531 = .ok (.iload_n 3, 1) := by decide +kernel
theorem dL_law_1532 : decode cL_law 1532 = .ok (.iconst 1, 1) := by decide +kernel
theorem dL_law_1533 : decode cL_law 1533 = .ok (.iadd, 1) := by decide +kernel
theorem dL_law_1534 : decode cL_law 1534 = .ok (.iaload, 1) := by decide +kernel
theorem dL_law_1535 : decode cL_law 1535 = .ok (.invokevirtual 172, 3) := by decide +kernel
theorem dL_law_1538 : decode cL_law 1538 = .ok (.aload_n 2, 1) := by decide +kernel
theorem dL_law_1539 : decode cL_law 1539 = .ok (.aload_n 0, 1) := by decide +kernel
theorem dL_law_1540 : decode cL_law 1540 = .ok (.iload_n 3, 1) := by decide +kernel
theorem dL_law_1541 : decode cL_law 1541 = .ok (.iconst 1, 1) := by decide +kernel
theorem dL_law_1542 : decode cL_law 1542 = .ok (.iadd, 1) := by decide +kernel
theorem dL_law_1543 : decode cL_law 1543 = .ok (.iaload, 1) := by decide +kernel
theorem dL_law_1544 : decode cL_law 1544 = .ok (.invokevirtual 175, 3) := by decide +kernel
theorem dL_law_1547 : decode cL_law 1547 = .ok (.if_icmp .eq 90, 3) := by decide +kernel
theorem dL_law_1550 : decode cL_law 1550 = .ok (.iconst 0, 1) := by decide +kernel
theorem dL_law_1551 : decode cL_law 1551 = .ok (.ireturn, 1) := by decide +kernel
theorem dL_law_1552 : decode cL_law 1552 = .ok (.aload_n 1, 1) := by decide +kernel
theorem dL_law_1553 : decode cL_law 1553 = .ok (.invokevirtual 176, 3) := by decide +kernel
theorem dL_law_1556 : decode cL_law 1556 = .ok (.aload_n 2, 1) := by decide +kernel
theorem dL_law_1557 : decode cL_law 1557 = .ok (.invokevirtual 179, 3) := by decide +kernel
theorem dL_law_1560 : decode cL_law 1560 = .ok (.if_icmp .eq 77, 3) := by decide +kernel
theorem dL_law_1563 : decode cL_law 1563 = .ok (.iconst 0, 1) := by decide +kernel
theorem dL_law_1564 : decode cL_law 1564 = .ok (.ireturn, 1) := by decide +kernel
theorem dL_law_1565 : decode cL_law 1565 = .ok (.aload_n 1, 1) := by decide +kernel
theorem dL_law_1566 : decode cL_law 1566 = .ok (.invokevirtual 180, 3) := by decide +kernel
theorem dL_law_1569 : decode cL_law 1569 = .ok (.aload_n 2, 1) := by decide +kernel
theorem dL_law_1570 : decode cL_law 1570 = .ok (.invokevirtual 183, 3) := by decide +kernel
theorem dL_law_1573 : decode cL_law 1573 = .ok (.if_icmp .eq 64, 3) := by decide +kernel
theorem dL_law_1576 : decode cL_law 1576 = .ok (.iconst 0, 1) := by decide +kernel
theorem dL_law_1577 : decode cL_law 1577 = .ok (.ireturn, 1) := by decide +kernel
theorem dL_law_1578 : decode cL_law 1578 = .ok (.aload_n 1, 1) := by decide +kernel
theorem dL_law_1579 : decode cL_law 1579 = .ok (.invokevirtual 184, 3) := by decide +kernel
theorem dL_law_1582 : decode cL_law 1582 = .ok (.aload_n 2, 1) := by decide +kernel
theorem dL_law_1583 : decode cL_law 1583 = .ok (.invokevirtual 187, 3) := by decide +kernel
theorem dL_law_1586 : decode cL_law 1586 = .ok (.if_icmp .eq 51, 3) := by decide +kernel
theorem dL_law_1589 : decode cL_law 1589 = .ok (.iconst 0, 1) := by decide +kernel
theorem dL_law_1590 : decode cL_law 1590 = .ok (.ireturn, 1) := by decide +kernel
theorem dL_law_1591 : decode cL_law 1591 = .ok (.aload_n 1, 1) := by decide +kernel
theorem dL_law_1592 : decode cL_law 1592 = .ok (.aload_n 0, 1) := by decide +kernel
theorem dL_law_1593 : decode cL_law 1593 = .ok (.iload_n 3, 1) := by decide +kernel
theorem dL_law_1594 : decode cL_law 1594 = .ok (.iconst 1, 1) := by decide +kernel
theorem dL_law_1595 : decode cL_law 1595 = .ok (.iadd, 1) := by decide +kernel
theorem dL_law_1596 : decode cL_law 1596 = .ok (.iaload, 1) := by decide +kernel
theorem dL_law_1597 : decode cL_law 1597 = .ok (.invokevirtual 188, 3) := by decide +kernel
theorem dL_law_1600 : decode cL_law 1600 = .ok (.aload_n 2, 1) := by decide +kernel
theorem dL_law_1601 : decode cL_law 1601 = .ok (.aload_n 0, 1) := by decide +kernel
theorem dL_law_1602 : decode cL_law 1602 = .ok (.iload_n 3, 1) := by decide +kernel
theorem dL_law_1603 : decode cL_law 1603 = .ok (.iconst 1, 1) := by decide +kernel
theorem dL_law_1604 : decode cL_law 1604 = .ok (.iadd, 1) := by decide +kernel
theorem dL_law_1605 : decode cL_law 1605 = .ok (.iaload, 1) := by decide +kernel
theorem dL_law_1606 : decode cL_law 1606 = .ok (.invokevirtual 191, 3) := by decide +kernel
theorem dL_law_1609 : decode cL_law 1609 = .ok (.if_icmp .eq 28, 3) := by decide +kernel
theorem dL_law_1612 : decode cL_law 1612 = .ok (.iconst 0, 1) := by decide +kernel
theorem dL_law_1613 : decode cL_law 1613 = .ok (.ireturn, 1) := by decide +kernel
theorem dL_law_1614 : decode cL_law 1614 = .ok (.aload_n 1, 1) := by decide +kernel
theorem dL_law_1615 : decode cL_law 1615 = .ok (.aload_n 0, 1) := by decide +kernel
theorem dL_law_1616 : decode cL_law 1616 = .ok (.iload_n 3, 1) := by decide +kernel
theorem dL_law_1617 : decode cL_law 1617 = .ok (.iconst 1, 1) := by decide +kernel
theorem dL_law_1618 : decode cL_law 1618 = .ok (.iadd, 1) := by decide +kernel
theorem dL_law_1619 : decode cL_law 1619 = .ok (.iaload, 1) := by decide +kernel
theorem dL_law_1620 : decode cL_law 1620 = .ok (.invokevirtual 192, 3) := by decide +kernel
theorem dL_law_1623 : decode cL_law 1623 = .ok (.aload_n 2, 1) := by decide +kernel
theorem dL_law_1624 : decode cL_law 1624 = .ok (.aload_n 0, 1) := by decide +kernel
theorem dL_law_1625 : decode cL_law 1625 = .ok (.iload_n 3, 1) := by decide +kernel
theorem dL_law_1626 : decode cL_law 1626 = .ok (.iconst 1, 1) := by decide +kernel
theorem dL_law_1627 : decode cL_law 1627 = .ok (.iadd, 1) := by decide +kernel
theorem dL_law_1628 : decode cL_law 1628 = .ok (.iaload, 1) := by decide +kernel
theorem dL_law_1629 : decode cL_law 1629 = .ok (.invokevirtual 195, 3) := by decide +kernel
theorem dL_law_1632 : decode cL_law 1632 = .ok (.if_icmp .eq 5, 3) := by decide +kernel
theorem dL_law_1635 : decode cL_law 1635 = .ok (.iconst 0, 1) := by decide +kernel
theorem dL_law_1636 : decode cL_law 1636 = .ok (.ireturn, 1) := by decide +kernel
theorem dL_law_1637 : decode cL_law 1637 = .ok (.iinc 3 6, 3) := by decide +kernel
theorem dL_law_1640 : decode cL_law 1640 = .ok (.goto (-1622), 3) := by decide +kernel
theorem dL_law_1643 : decode cL_law 1643 = .ok (.iconst 1, 1) := by decide +kernel
theorem dL_law_1644 : decode cL_law 1644 = .ok (.ireturn, 1) := by decide +kernel
end
section
/-! MY LAYER: a judgement over (pc, locals, stack, cells) alone; contracts of methods that make no cell -/
abbrev kz_Z : Type := va_G × (Nat → ClassId) × (Nat → Nat)
abbrev k_ty (Z : kz_Z) : List (ClassId × FieldType) := [(Z.2.1 0, .int), (Z.2.1 1, .array .int), (Z.2.1 2, .byte), (Z.2.1 3, .char), (Z.2.1 4, .object RX1)]
abbrev k_most (k : Nat) : Value := .int (match k with | 0 => 6 | 1 => 8 | 2 => 1 | 3 => 9 | _ => 9999)
abbrev k_above (k : Nat) : Value := .int (match k with | 0 => -1 | 1 => 0 | 2 => 0 | 3 => 2 | 4 => 3 | 5 => 0 | _ => 1)
/-- the class's two tables -/
def k_S (Z : kz_Z) (A : Nat → Prop) (U : State) (H : Heap) : Prop := (va_Z RX3 "MOST_OF_PART" "[I" (.ref (Z.2.2 0)) A U H ∧ va_T .int (Z.2.2 0) 5 k_most A U H) ∧ va_Z RX3 "KIND_ABOVE" "[I" (.ref (Z.2.2 1)) A U H ∧ va_T .int (Z.2.2 1) 7 k_above A U H
theorem k_S.moved {Z : kz_Z} {A : Nat → Prop} {u U : State} {H : Heap} (hvm : u.vm.Alike U.vm) (h : k_S Z A u H) : k_S Z A U H := ⟨⟨h.1.1.moved hvm, h.1.2.moved hvm⟩, h.2.1.moved hvm, h.2.2.moved hvm⟩
theorem k_S.kept {Z : kz_Z} {A : Nat → Prop} {U : State} {H H1 : Heap} (h : k_S Z A U H) (hq : ∀ a : Nat, a < H.size → ¬ A a → H1[a]? = H[a]?) : k_S Z A U H1 := ⟨⟨h.1.1.kept hq, h.1.2.kept hq⟩, h.2.1.kept hq, h.2.2.kept hq⟩
theorem k_S.narrow {Z : kz_Z} {A B : Nat → Prop} {U : State} {H : Heap} (h : k_S Z A U H) (hAB : ∀ q, B q → A q) : k_S Z B U H := ⟨⟨h.1.1.narrow hAB, h.1.2.narrow hAB⟩, h.2.1.narrow hAB, h.2.2.narrow hAB⟩
/-! worlds as lists: membership, a part of them framed -/
theorem k_P {D : va_G} {cl : List vw_C} {ws : va_W} {H : Heap} : va_P D cl ws H ↔ ∀ q ∈ ws, va_at D cl q H := ⟨fun h q hq => by obtain ⟨k, hk⟩ := List.getElem?_of_mem hq; exact h k q hk, fun h k q hk => h q (List.mem_of_getElem? hk)⟩
theorem k_D {A : Nat → Prop} {ws : va_W} : va_D A ws ↔ ws.Pairwise (fun p q => p.1 ≠ q.1) ∧ ∀ q ∈ ws, A q.1 := by
  constructor
  · intro h
    refine ⟨List.pairwise_iff_getElem.mpr fun i j hi hj hij e => ?_, fun q hq => by obtain ⟨k, hk⟩ := List.getElem?_of_mem hq; exact h.2 k q hk⟩
    have := h.1 i j _ _ (List.getElem?_eq_getElem hi) (List.getElem?_eq_getElem hj) e
    omega
  · intro h
    refine ⟨fun i j p q hi hj e => ?_, fun k q hk => h.2 q (List.mem_of_getElem? hk)⟩
    obtain ⟨h1, rfl⟩ := List.getElem?_eq_some_iff.mp hi
    obtain ⟨h2, rfl⟩ := List.getElem?_eq_some_iff.mp hj
    rcases Nat.lt_trichotomy i j with z | z | z
    · exact absurd e (List.pairwise_iff_getElem.mp h.1 i j h1 h2 z)
    · exact z
    · exact absurd e.symm (List.pairwise_iff_getElem.mp h.1 j i h2 h1 z)
theorem k_A {ws : va_W} {sz q : Nat} : va_A ws sz q ↔ (∃ e, (q, e) ∈ ws) ∨ sz ≤ q := by
  constructor
  · rintro (⟨k, e, h⟩ | h)
    · exact Or.inl ⟨e, List.mem_of_getElem? h⟩
    · exact Or.inr h
  · rintro (⟨e, h⟩ | h)
    · obtain ⟨k, hk⟩ := List.getElem?_of_mem h
      exact Or.inl ⟨k, e, hk⟩
    · exact Or.inr h
theorem k_fr {A0 : Nat → Prop} {D : va_G} {cl : List vw_C} {X wc Y w1 : va_W} {H H1 : Heap} (hP : va_P D cl (X ++ (wc ++ Y)) H) (hD : va_D A0 (X ++ (wc ++ Y)))
    (hk : ∀ q : Nat, q < H.size → ¬ va_A wc H.size q → H1[q]? = H[q]?) (hF : ∀ q, va_A wc H.size q → A0 q) (hP1 : va_P D cl w1 H1) (hD1 : va_D (va_A wc H.size) w1) :
    va_P D cl (X ++ (w1 ++ Y)) H1 ∧ va_D A0 (X ++ (w1 ++ Y)) := by
  rw [k_P] at hP hP1
  rw [k_D] at hD hD1
  obtain ⟨hp, ha⟩ := hD
  obtain ⟨hpX, hpWY, hXWY⟩ := List.pairwise_append.mp hp
  obtain ⟨hpW, hpY, hWY⟩ := List.pairwise_append.mp hpWY
  have out : ∀ q : Nat × va_E, q.1 < H.size → (∀ c ∈ wc, q.1 ≠ c.1) → ¬ va_A wc H.size q.1 := fun q h1 h2 h3 => by
    rcases k_A.mp h3 with ⟨e, h⟩ | h
    · exact h2 _ h rfl
    · omega
  have oX : ∀ q ∈ X, ¬ va_A wc H.size q.1 := fun q hq => out q ((hP q (List.mem_append_left _ hq)).lt) (fun c hc => hXWY q hq c (List.mem_append_left _ hc))
  have oY : ∀ q ∈ Y, ¬ va_A wc H.size q.1 := fun q hq => out q ((hP q (List.mem_append_right _ (List.mem_append_right _ hq))).lt) (fun c hc => (hWY c hc q hq).symm)
  constructor
  · rw [k_P]
    intro q hq
    rcases List.mem_append.mp hq with h | h
    · have h9 := hP q (List.mem_append_left _ h)
      exact h9.kept (hk _ h9.lt (oX q h))
    · rcases List.mem_append.mp h with h | h
      · exact hP1 q h
      · have h9 := hP q (List.mem_append_right _ (List.mem_append_right _ h))
        exact h9.kept (hk _ h9.lt (oY q h))
  · rw [k_D]
    refine ⟨List.pairwise_append.mpr ⟨hpX, List.pairwise_append.mpr ⟨hD1.1, hpY, fun a ha2 b hb e => ?_⟩, fun a ha2 b hb e => ?_⟩, fun q hq => ?_⟩
    · exact oY b hb (e ▸ hD1.2 a ha2)
    · rcases List.mem_append.mp hb with h | h
      · exact oX a ha2 (e ▸ hD1.2 b h)
      · exact hXWY a ha2 b (List.mem_append_right _ h) e
    · rcases List.mem_append.mp hq with h | h
      · exact ha q (List.mem_append_left _ h)
      · rcases List.mem_append.mp h with h | h
        · exact hF _ (hD1.2 q h)
        · exact ha q (List.mem_append_right _ (List.mem_append_right _ h))
/-! the judgement -/
abbrev kT : Type := (Program × Launch × Env × Room × State) × (MethodId × Array Value × List Frame × Method × Code) × ((Nat → Prop) × (State → Prop) × kz_Z × Nat × Nat)
abbrev k_p (M : kT) : Program := M.1.1
abbrev k_l (M : kT) : Launch := M.1.2.1
abbrev k_e (M : kT) : Env := M.1.2.2.1
abbrev k_R (M : kT) : Room := M.1.2.2.2.1
abbrev k_s (M : kT) : State := M.1.2.2.2.2
abbrev k_m (M : kT) : MethodId := M.2.1.1
abbrev k_a (M : kT) : Array Value := M.2.1.2.1
abbrev k_b (M : kT) : List Frame := M.2.1.2.2.1
abbrev k_h (M : kT) : Method := M.2.1.2.2.2.1
abbrev k_c (M : kT) : Code := M.2.1.2.2.2.2
abbrev k_W (M : kT) : Nat → Prop := M.2.2.1
abbrev k_Q (M : kT) : State → Prop := M.2.2.2.1
abbrev k_Z (M : kT) : kz_Z := M.2.2.2.2.1
abbrev k_n (M : kT) : Nat := M.2.2.2.2.2.1
abbrev k_k (M : kT) : Nat := M.2.2.2.2.2.2
def kJ (M : kT) (nL pc : Nat) (lv : List (Nat × Value)) (st : List Value) (ws : va_W) : Prop :=
  ∀ (H : Heap) (locs : List Loc) (ls : Array Slot), va_P (k_Z M).1 vwCl ws H → va_D (k_W M) ws → va_S (k_W M) (k_s M).heap H locs → lv_has ls nL lv →
    W (k_p M) (k_l M) (k_e M) (k_R M) (k_s M) (k_m M) (k_a M) (k_b M) (k_h M) (k_c M) H locs (k_n M) (k_k M) (k_Q M) (F0 (k_m M) pc ls st)
def kK (M : kT) (cc : ByteArray) (nL : Nat) (own : String) (fr lo : Nat) : Prop :=
  (k_p M).tables.exec = Jvm.exec ∧ (k_c M).code = cc ∧ (k_c M).maxLocals = nL ∧ (k_s M).vm.findClass own = some (k_m M).cls ∧ (∀ w ∈ tw_T, w.before (k_a M) (k_s M) = true) ∧ va_K (k_Z M).1 vwCl (k_ty (k_Z M)) (k_s M) ∧ (∀ q, (k_s M).heap.size ≤ q → k_W M q) ∧ k_S (k_Z M) (k_W M) (k_s M) (k_s M).heap ∧ ((k_R M).frames = fr ∧ (k_R M).locals = lo) ∧ k_n M ≤ (k_R M).cells ∧ k_k M ≤ (k_R M).slots
section KJ
variable {M : kT} {cc : ByteArray} {nL : Nat} {own : String} {fr lo pc : Nat} {lv : List (Nat × Value)} {st : List Value} {ws : va_W}
/-- fewer locals, in another order -/
theorem q_lv {lv' : List (Nat × Value)} (ks : List Nat) (h : lv_pick lv ks = lv') (kk : kJ M nL pc lv' st ws) : kJ M nL pc lv st ws := fun H locs ls hP hD hS hl => kk H locs ls hP hD hS (lv_sub hl ks h)
theorem q_ws {ws' : va_W} (h : ws = ws') (kk : kJ M nL pc lv st ws') : kJ M nL pc lv st ws := h ▸ kk
theorem q_st {st' : List Value} (h : st = st') (kk : kJ M nL pc lv st' ws) : kJ M nL pc lv st ws := h ▸ kk
theorem q_topi {x : Int32} (k : ∀ y : Int32, y = x → kJ M nL pc lv (.int y :: st) ws) : kJ M nL pc lv (.int x :: st) ws := k x rfl
theorem q_topl {x : Int64} (k : ∀ y : Int64, y = x → kJ M nL pc lv (.long y :: st) ws) : kJ M nL pc lv (.long x :: st) ws := k x rfl
/-- the top by another name -/
theorem q_eqi {x : Int32} (y : Int32) (h : x = y) (k : kJ M nL pc lv (.int y :: st) ws) : kJ M nL pc lv (.int x :: st) ws := h ▸ k
/-- a join: what comes behind, first -/
theorem q_cut {α : Type} (P : α → Prop) (pc2 : Nat) (lv2 : α → List (Nat × Value)) (st2 : α → List Value) (ws2 : α → va_W) (J : ∀ x, P x → kJ M nL pc2 (lv2 x) (st2 x) (ws2 x)) (k : (∀ x, P x → kJ M nL pc2 (lv2 x) (st2 x) (ws2 x)) → kJ M nL pc lv st ws) : kJ M nL pc lv st ws := k J
/-- a loop: I falls in n -/
theorem q_loop {α : Type} (I : Nat → α → Prop) (pc2 : Nat) (lv2 : α → List (Nat × Value)) (ws2 : α → va_W)
    (step : ∀ (n : Nat) (x : α), I n x → (∀ (k : Nat) (y : α), k < n → I k y → kJ M nL pc2 (lv2 y) [] (ws2 y)) → kJ M nL pc2 (lv2 x) [] (ws2 x)) : ∀ (n : Nat) (x : α), I n x → kJ M nL pc2 (lv2 x) [] (ws2 x) := by
  intro n
  induction n using Nat.strongRecOn with
  | ind n ih => exact fun x hx => step n x hx (fun k y hk hy => ih k hk y hy)
theorem q_iconst {n : Int} (v : Int32) (K : kK M cc nL own fr lo) (hdg : decode cc pc = .ok (.iconst n, 1)) (hv : Int32.ofInt n = v) (kk : kJ M nL (pc + 1) lv (.int v :: st) ws) : kJ M nL pc lv st ws := fun H locs ls hP hD hS hl => by obtain ⟨hx, hb, -⟩ := K; exact lv_iconst hx hb hdg hv (kk H locs ls hP hD hS hl)
theorem q_bipush {n : Int} (v : Int32) (K : kK M cc nL own fr lo) (hdg : decode cc pc = .ok (.bipush n, 2)) (hv : (Int8.ofInt n).toInt32 = v) (kk : kJ M nL (pc + 2) lv (.int v :: st) ws) : kJ M nL pc lv st ws := fun H locs ls hP hD hS hl => by obtain ⟨hx, hb, -⟩ := K; exact lv_bipush hx hb hdg hv (kk H locs ls hP hD hS hl)
theorem q_sipush {n : Int} (v : Int32) (K : kK M cc nL own fr lo) (hdg : decode cc pc = .ok (.sipush n, 3)) (hv : (Int16.ofInt n).toInt32 = v) (kk : kJ M nL (pc + 3) lv (.int v :: st) ws) : kJ M nL pc lv st ws := fun H locs ls hP hD hS hl => by obtain ⟨hx, hb, -⟩ := K; exact lv_sipush hx hb hdg hv (kk H locs ls hP hD hS hl)
theorem q_lconst {n : Fin 2} (v : Int64) (K : kK M cc nL own fr lo) (hdg : decode cc pc = .ok (.lconst n, 1)) (hv : Int64.ofNat (n : Nat) = v) (kk : kJ M nL (pc + 1) lv (.long v :: st) ws) : kJ M nL pc lv st ws := fun H locs ls hP hD hS hl => by obtain ⟨hx, hb, -⟩ := K; exact lv_lconst hx hb hdg hv (kk H locs ls hP hD hS hl)
theorem q_ldc {i : Nat} {v : Int32} (K : kK M cc nL own fr lo) (hdg : decode cc pc = .ok (.ldc i, 2)) (hw : Cond.constant own i v ∈ tw_T) (kk : kJ M nL (pc + 2) lv (.int v :: st) ws) : kJ M nL pc lv st ws := fun H locs ls hP hD hS hl => by obtain ⟨hx, hb, -, ho, ht, -⟩ := K; exact lv_ldc hx hb ho (ht _ hw) hdg (kk H locs ls hP hD hS hl)
theorem q_ldc2 {i : Nat} {v : Int64} (K : kK M cc nL own fr lo) (hdg : decode cc pc = .ok (.ldc2_w i, 3)) (hw : Cond.constantLong own i v ∈ tw_T) (kk : kJ M nL (pc + 3) lv (.long v :: st) ws) : kJ M nL pc lv st ws := fun H locs ls hP hD hS hl => by obtain ⟨hx, hb, -, ho, ht, -⟩ := K; exact lv_ldc2 hx hb ho (ht _ hw) hdg (kk H locs ls hP hD hS hl)
theorem q_iload_n {k : Fin 4} {x : Int32} (K : kK M cc nL own fr lo) (j : Nat) (hdg : decode cc pc = .ok (.iload_n k, 1)) (hj : lv[j]? = some ((k : Nat), .int x)) (kk : kJ M nL (pc + 1) lv (.int x :: st) ws) : kJ M nL pc lv st ws := fun H locs ls hP hD hS hl => by obtain ⟨hx, hb, -⟩ := K; exact lv_iload_n hx hb hdg rfl (lv_at hl j hj) (kk H locs ls hP hD hS hl)
theorem q_iload {i : Nat} {x : Int32} (K : kK M cc nL own fr lo) (j : Nat) (hdg : decode cc pc = .ok (.iload i, 2)) (hj : lv[j]? = some (i, .int x)) (kk : kJ M nL (pc + 2) lv (.int x :: st) ws) : kJ M nL pc lv st ws := fun H locs ls hP hD hS hl => by obtain ⟨hx, hb, -⟩ := K; exact lv_iload hx hb hdg (lv_at hl j hj) (kk H locs ls hP hD hS hl)
theorem q_lload_n {k : Fin 4} {x : Int64} (K : kK M cc nL own fr lo) (j : Nat) (hdg : decode cc pc = .ok (.lload_n k, 1)) (hj : lv[j]? = some ((k : Nat), .long x)) (kk : kJ M nL (pc + 1) lv (.long x :: st) ws) : kJ M nL pc lv st ws := fun H locs ls hP hD hS hl => by obtain ⟨hx, hb, -⟩ := K; exact lv_lload_n hx hb hdg rfl (lv_at hl j hj) (kk H locs ls hP hD hS hl)
theorem q_lload {i : Nat} {x : Int64} (K : kK M cc nL own fr lo) (j : Nat) (hdg : decode cc pc = .ok (.lload i, 2)) (hj : lv[j]? = some (i, .long x)) (kk : kJ M nL (pc + 2) lv (.long x :: st) ws) : kJ M nL pc lv st ws := fun H locs ls hP hD hS hl => by obtain ⟨hx, hb, -⟩ := K; exact lv_lload hx hb hdg (lv_at hl j hj) (kk H locs ls hP hD hS hl)
theorem q_aload_n {k : Fin 4} {x : Nat} (K : kK M cc nL own fr lo) (j : Nat) (hdg : decode cc pc = .ok (.aload_n k, 1)) (hj : lv[j]? = some ((k : Nat), .ref x)) (kk : kJ M nL (pc + 1) lv (.ref x :: st) ws) : kJ M nL pc lv st ws := fun H locs ls hP hD hS hl => by obtain ⟨hx, hb, -⟩ := K; exact lv_aload_n hx hb hdg rfl (lv_at hl j hj) (kk H locs ls hP hD hS hl)
theorem q_istore_n {k : Fin 4} {x : Int32} {lv' : List (Nat × Value)} (K : kK M cc nL own fr lo) (hdg : decode cc pc = .ok (.istore_n k, 1)) (hn : (k : Nat) < nL) (hl9 : ((k : Nat), Value.int x) :: lv.filter (fun q => !(q.1 == (k : Nat)) && !(q.1 + 1 == (k : Nat) && q.2.category == 2)) = lv') (kk : kJ M nL (pc + 1) lv' st ws) : kJ M nL pc lv (.int x :: st) ws := fun H locs ls hP hD hS hl => by obtain ⟨hx, hb, -⟩ := K; exact lv_istore_n hx hb hdg rfl hl hn hl9 (fun ls' h' => kk H locs ls' hP hD hS h')
theorem q_istore {i : Nat} {x : Int32} {lv' : List (Nat × Value)} (K : kK M cc nL own fr lo) (hdg : decode cc pc = .ok (.istore i, 2)) (hn : i < nL) (hl9 : (i, Value.int x) :: lv.filter (fun q => !(q.1 == i) && !(q.1 + 1 == i && q.2.category == 2)) = lv') (kk : kJ M nL (pc + 2) lv' st ws) : kJ M nL pc lv (.int x :: st) ws := fun H locs ls hP hD hS hl => by obtain ⟨hx, hb, -⟩ := K; exact lv_istore hx hb hdg hl hn hl9 (fun ls' h' => kk H locs ls' hP hD hS h')
theorem q_lstore_n {k : Fin 4} {x : Int64} {lv' : List (Nat × Value)} (K : kK M cc nL own fr lo) (hdg : decode cc pc = .ok (.lstore_n k, 1)) (hn : (k : Nat) + 1 < nL) (hl9 : ((k : Nat), Value.long x) :: lv.filter (fun q => !(q.1 == (k : Nat)) && (!(q.1 == (k : Nat) + 1) && !(q.1 + 1 == (k : Nat) && q.2.category == 2))) = lv') (kk : kJ M nL (pc + 1) lv' st ws) : kJ M nL pc lv (.long x :: st) ws := fun H locs ls hP hD hS hl => by obtain ⟨hx, hb, -⟩ := K; exact lv_lstore_n hx hb hdg rfl hl hn hl9 (fun ls' h' => kk H locs ls' hP hD hS h')
theorem q_lstore {i : Nat} {x : Int64} {lv' : List (Nat × Value)} (K : kK M cc nL own fr lo) (hdg : decode cc pc = .ok (.lstore i, 2)) (hn : i + 1 < nL) (hl9 : (i, Value.long x) :: lv.filter (fun q => !(q.1 == i) && (!(q.1 == i + 1) && !(q.1 + 1 == i && q.2.category == 2))) = lv') (kk : kJ M nL (pc + 2) lv' st ws) : kJ M nL pc lv (.long x :: st) ws := fun H locs ls hP hD hS hl => by obtain ⟨hx, hb, -⟩ := K; exact lv_lstore hx hb hdg hl hn hl9 (fun ls' h' => kk H locs ls' hP hD hS h')
theorem q_iinc {i : Nat} {n : Int} {x : Int32} (v : Int32) {lv' : List (Nat × Value)} (K : kK M cc nL own fr lo) (j : Nat) (hdg : decode cc pc = .ok (.iinc i n, 3)) (hj : lv[j]? = some (i, .int x)) (hv : x + Int32.ofInt n = v) (hn : i < nL) (hl9 : (i, Value.int v) :: lv.filter (fun q => !(q.1 == i) && !(q.1 + 1 == i && q.2.category == 2)) = lv') (kk : kJ M nL (pc + 3) lv' st ws) : kJ M nL pc lv st ws := fun H locs ls hP hD hS hl => by obtain ⟨hx, hb, -⟩ := K; exact lv_iinc hx hb hdg hl hj hv hn hl9 (fun ls' h' => kk H locs ls' hP hD hS h')
theorem q_iadd {x y : Int32} (K : kK M cc nL own fr lo) (hdg : decode cc pc = .ok (.iadd, 1)) (kk : kJ M nL (pc + 1) lv (.int (x + y) :: st) ws) : kJ M nL pc lv (.int y :: .int x :: st) ws := fun H locs ls hP hD hS hl => by obtain ⟨hx, hb, -⟩ := K; exact lv_iadd hx hb hdg (kk H locs ls hP hD hS hl)
theorem q_isub {x y : Int32} (K : kK M cc nL own fr lo) (hdg : decode cc pc = .ok (.isub, 1)) (kk : kJ M nL (pc + 1) lv (.int (x - y) :: st) ws) : kJ M nL pc lv (.int y :: .int x :: st) ws := fun H locs ls hP hD hS hl => by obtain ⟨hx, hb, -⟩ := K; exact lv_isub hx hb hdg (kk H locs ls hP hD hS hl)
theorem q_imul {x y : Int32} (K : kK M cc nL own fr lo) (hdg : decode cc pc = .ok (.imul, 1)) (kk : kJ M nL (pc + 1) lv (.int (x * y) :: st) ws) : kJ M nL pc lv (.int y :: .int x :: st) ws := fun H locs ls hP hD hS hl => by obtain ⟨hx, hb, -⟩ := K; exact lv_imul hx hb hdg (kk H locs ls hP hD hS hl)
theorem q_iand {x y : Int32} (K : kK M cc nL own fr lo) (hdg : decode cc pc = .ok (.iand, 1)) (kk : kJ M nL (pc + 1) lv (.int (x &&& y) :: st) ws) : kJ M nL pc lv (.int y :: .int x :: st) ws := fun H locs ls hP hD hS hl => by obtain ⟨hx, hb, -⟩ := K; exact lv_iand hx hb hdg (kk H locs ls hP hD hS hl)
theorem q_ior {x y : Int32} (K : kK M cc nL own fr lo) (hdg : decode cc pc = .ok (.ior, 1)) (kk : kJ M nL (pc + 1) lv (.int (x ||| y) :: st) ws) : kJ M nL pc lv (.int y :: .int x :: st) ws := fun H locs ls hP hD hS hl => by obtain ⟨hx, hb, -⟩ := K; exact lv_ior hx hb hdg (kk H locs ls hP hD hS hl)
theorem q_ixor {x y : Int32} (K : kK M cc nL own fr lo) (hdg : decode cc pc = .ok (.ixor, 1)) (kk : kJ M nL (pc + 1) lv (.int (x ^^^ y) :: st) ws) : kJ M nL pc lv (.int y :: .int x :: st) ws := fun H locs ls hP hD hS hl => by obtain ⟨hx, hb, -⟩ := K; exact lv_ixor hx hb hdg (kk H locs ls hP hD hS hl)
theorem q_ishl {x y : Int32} (K : kK M cc nL own fr lo) (hdg : decode cc pc = .ok (.ishl, 1)) (kk : kJ M nL (pc + 1) lv (.int (x <<< (y &&& 31)) :: st) ws) : kJ M nL pc lv (.int y :: .int x :: st) ws := fun H locs ls hP hD hS hl => by obtain ⟨hx, hb, -⟩ := K; exact lv_ishl hx hb hdg (kk H locs ls hP hD hS hl)
theorem q_ishr {x y : Int32} (K : kK M cc nL own fr lo) (hdg : decode cc pc = .ok (.ishr, 1)) (kk : kJ M nL (pc + 1) lv (.int (x >>> (y &&& 31)) :: st) ws) : kJ M nL pc lv (.int y :: .int x :: st) ws := fun H locs ls hP hD hS hl => by obtain ⟨hx, hb, -⟩ := K; exact lv_ishr hx hb hdg (kk H locs ls hP hD hS hl)
theorem q_idiv {x y : Int32} (K : kK M cc nL own fr lo) (hdg : decode cc pc = .ok (.idiv, 1)) (hne : ¬ y = 0) (kk : kJ M nL (pc + 1) lv (.int (x / y) :: st) ws) : kJ M nL pc lv (.int y :: .int x :: st) ws := fun H locs ls hP hD hS hl => by obtain ⟨hx, hb, -⟩ := K; exact lv_idiv hx hb hdg hne (kk H locs ls hP hD hS hl)
theorem q_irem {x y : Int32} (K : kK M cc nL own fr lo) (hdg : decode cc pc = .ok (.irem, 1)) (hne : ¬ y = 0) (kk : kJ M nL (pc + 1) lv (.int (x - x / y * y) :: st) ws) : kJ M nL pc lv (.int y :: .int x :: st) ws := fun H locs ls hP hD hS hl => by obtain ⟨hx, hb, -⟩ := K; exact lv_irem hx hb hdg hne (kk H locs ls hP hD hS hl)
theorem q_iushr {x y : Int32} (K : kK M cc nL own fr lo) (hdg : decode cc pc = .ok (.iushr, 1)) (kk : kJ M nL (pc + 1) lv (.int ((x.toUInt32 >>> (y.toUInt32 &&& Int32.toUInt32 31)).toInt32) :: st) ws) : kJ M nL pc lv (.int y :: .int x :: st) ws := fun H locs ls hP hD hS hl => by obtain ⟨hx, hb, -⟩ := K; exact lv_iushr hx hb hdg rfl (kk H locs ls hP hD hS hl)
theorem q_lmul {x y : Int64} (K : kK M cc nL own fr lo) (hdg : decode cc pc = .ok (.lmul, 1)) (kk : kJ M nL (pc + 1) lv (.long (x * y) :: st) ws) : kJ M nL pc lv (.long y :: .long x :: st) ws := fun H locs ls hP hD hS hl => by obtain ⟨hx, hb, -⟩ := K; exact lv_lmul hx hb hdg (kk H locs ls hP hD hS hl)
theorem q_ldiv {x y : Int64} (K : kK M cc nL own fr lo) (hdg : decode cc pc = .ok (.ldiv, 1)) (hne : ¬ y = 0) (kk : kJ M nL (pc + 1) lv (.long (x / y) :: st) ws) : kJ M nL pc lv (.long y :: .long x :: st) ws := fun H locs ls hP hD hS hl => by obtain ⟨hx, hb, -⟩ := K; exact lv_ldiv hx hb hdg hne (kk H locs ls hP hD hS hl)
theorem q_lrem {x y : Int64} (K : kK M cc nL own fr lo) (hdg : decode cc pc = .ok (.lrem, 1)) (hne : ¬ y = 0) (kk : kJ M nL (pc + 1) lv (.long (x - x / y * y) :: st) ws) : kJ M nL pc lv (.long y :: .long x :: st) ws := fun H locs ls hP hD hS hl => by obtain ⟨hx, hb, -⟩ := K; exact lv_lrem hx hb hdg hne (kk H locs ls hP hD hS hl)
theorem q_lcmp {x y : Int64} (K : kK M cc nL own fr lo) (hdg : decode cc pc = .ok (.lcmp, 1)) (kk : kJ M nL (pc + 1) lv (.int (lg_cmp x y) :: st) ws) : kJ M nL pc lv (.long y :: .long x :: st) ws := fun H locs ls hP hD hS hl => by obtain ⟨hx, hb, -⟩ := K; exact W.lcmp hx hb hdg (kk H locs ls hP hD hS hl)
theorem q_i2l {x : Int32} (K : kK M cc nL own fr lo) (hdg : decode cc pc = .ok (.i2l, 1)) (kk : kJ M nL (pc + 1) lv (.long x.toInt64 :: st) ws) : kJ M nL pc lv (.int x :: st) ws := fun H locs ls hP hD hS hl => by obtain ⟨hx, hb, -⟩ := K; exact lv_i2l hx hb hdg rfl (kk H locs ls hP hD hS hl)
theorem q_i2b {x : Int32} (K : kK M cc nL own fr lo) (hdg : decode cc pc = .ok (.i2b, 1)) (kk : kJ M nL (pc + 1) lv (.int x.toInt8.toInt32 :: st) ws) : kJ M nL pc lv (.int x :: st) ws := fun H locs ls hP hD hS hl => by obtain ⟨hx, hb, -⟩ := K; exact lv_i2b hx hb hdg rfl (kk H locs ls hP hD hS hl)
theorem q_i2s {x : Int32} (K : kK M cc nL own fr lo) (hdg : decode cc pc = .ok (.i2s, 1)) (kk : kJ M nL (pc + 1) lv (.int x.toInt16.toInt32 :: st) ws) : kJ M nL pc lv (.int x :: st) ws := fun H locs ls hP hD hS hl => by obtain ⟨hx, hb, -⟩ := K; exact lv_i2s hx hb hdg rfl (kk H locs ls hP hD hS hl)
theorem q_dup {va : Value} (K : kK M cc nL own fr lo) (hdg : decode cc pc = .ok (.dup, 1)) (hva : va.category = 1) (kk : kJ M nL (pc + 1) lv (va :: va :: st) ws) : kJ M nL pc lv (va :: st) ws := fun H locs ls hP hD hS hl => by obtain ⟨hx, hb, -⟩ := K; exact lv_dup hx hb hdg hva (kk H locs ls hP hD hS hl)
theorem q_pop {va : Value} (K : kK M cc nL own fr lo) (hdg : decode cc pc = .ok (.pop, 1)) (hva : va.category = 1) (kk : kJ M nL (pc + 1) lv st ws) : kJ M nL pc lv (va :: st) ws := fun H locs ls hP hD hS hl => by obtain ⟨hx, hb, -⟩ := K; exact lv_pop hx hb hdg hva (kk H locs ls hP hD hS hl)
theorem q_dup2 {va vb : Value} (K : kK M cc nL own fr lo) (hdg : decode cc pc = .ok (.dup2, 1)) (hva : va.category = 1) (hvb : vb.category = 1) (kk : kJ M nL (pc + 1) lv (va :: vb :: va :: vb :: st) ws) : kJ M nL pc lv (va :: vb :: st) ws := fun H locs ls hP hD hS hl => by obtain ⟨hx, hb, -⟩ := K; exact lv_dup2_11 hx hb hdg hva hvb (kk H locs ls hP hD hS hl)
theorem q_if_eq {x : Int32} {off : Int} (tgt : Nat) (K : kK M cc nL own fr lo) (hdg : decode cc pc = .ok (.ifCond .eq off, 3)) (ht : (pc : Int) + off = (tgt : Int)) (kt : x = 0 → kJ M nL tgt lv st ws) (kf : ¬ x = 0 → kJ M nL (pc + 3) lv st ws) : kJ M nL pc lv (.int x :: st) ws := fun H locs ls hP hD hS hl => by obtain ⟨hx, hb, -⟩ := K; exact lv_if_eq hx hb hdg ht (fun c9 => kt c9 H locs ls hP hD hS hl) (fun c9 => kf c9 H locs ls hP hD hS hl)
theorem q_icmp_eq {x y : Int32} {off : Int} (tgt : Nat) (K : kK M cc nL own fr lo) (hdg : decode cc pc = .ok (.if_icmp .eq off, 3)) (ht : (pc : Int) + off = (tgt : Int)) (kt : x = y → kJ M nL tgt lv st ws) (kf : ¬ x = y → kJ M nL (pc + 3) lv st ws) : kJ M nL pc lv (.int y :: .int x :: st) ws := fun H locs ls hP hD hS hl => by obtain ⟨hx, hb, -⟩ := K; exact lv_icmp_eq hx hb hdg ht (fun c9 => kt c9 H locs ls hP hD hS hl) (fun c9 => kf c9 H locs ls hP hD hS hl)
theorem q_if_ne {x : Int32} {off : Int} (tgt : Nat) (K : kK M cc nL own fr lo) (hdg : decode cc pc = .ok (.ifCond .ne off, 3)) (ht : (pc : Int) + off = (tgt : Int)) (kt : ¬ x = 0 → kJ M nL tgt lv st ws) (kf : x = 0 → kJ M nL (pc + 3) lv st ws) : kJ M nL pc lv (.int x :: st) ws := fun H locs ls hP hD hS hl => by obtain ⟨hx, hb, -⟩ := K; exact lv_if_ne hx hb hdg ht (fun c9 => kt c9 H locs ls hP hD hS hl) (fun c9 => kf c9 H locs ls hP hD hS hl)
theorem q_icmp_ne {x y : Int32} {off : Int} (tgt : Nat) (K : kK M cc nL own fr lo) (hdg : decode cc pc = .ok (.if_icmp .ne off, 3)) (ht : (pc : Int) + off = (tgt : Int)) (kt : ¬ x = y → kJ M nL tgt lv st ws) (kf : x = y → kJ M nL (pc + 3) lv st ws) : kJ M nL pc lv (.int y :: .int x :: st) ws := fun H locs ls hP hD hS hl => by obtain ⟨hx, hb, -⟩ := K; exact lv_icmp_ne hx hb hdg ht (fun c9 => kt c9 H locs ls hP hD hS hl) (fun c9 => kf c9 H locs ls hP hD hS hl)
theorem q_if_lt {x : Int32} {off : Int} (tgt : Nat) (K : kK M cc nL own fr lo) (hdg : decode cc pc = .ok (.ifCond .lt off, 3)) (ht : (pc : Int) + off = (tgt : Int)) (kt : x < 0 → kJ M nL tgt lv st ws) (kf : ¬ x < 0 → kJ M nL (pc + 3) lv st ws) : kJ M nL pc lv (.int x :: st) ws := fun H locs ls hP hD hS hl => by obtain ⟨hx, hb, -⟩ := K; exact lv_if_lt hx hb hdg ht (fun c9 => kt c9 H locs ls hP hD hS hl) (fun c9 => kf c9 H locs ls hP hD hS hl)
theorem q_icmp_lt {x y : Int32} {off : Int} (tgt : Nat) (K : kK M cc nL own fr lo) (hdg : decode cc pc = .ok (.if_icmp .lt off, 3)) (ht : (pc : Int) + off = (tgt : Int)) (kt : x < y → kJ M nL tgt lv st ws) (kf : ¬ x < y → kJ M nL (pc + 3) lv st ws) : kJ M nL pc lv (.int y :: .int x :: st) ws := fun H locs ls hP hD hS hl => by obtain ⟨hx, hb, -⟩ := K; exact lv_icmp_lt hx hb hdg ht (fun c9 => kt c9 H locs ls hP hD hS hl) (fun c9 => kf c9 H locs ls hP hD hS hl)
theorem q_if_ge {x : Int32} {off : Int} (tgt : Nat) (K : kK M cc nL own fr lo) (hdg : decode cc pc = .ok (.ifCond .ge off, 3)) (ht : (pc : Int) + off = (tgt : Int)) (kt : 0 ≤ x → kJ M nL tgt lv st ws) (kf : ¬ 0 ≤ x → kJ M nL (pc + 3) lv st ws) : kJ M nL pc lv (.int x :: st) ws := fun H locs ls hP hD hS hl => by obtain ⟨hx, hb, -⟩ := K; exact lv_if_ge hx hb hdg ht (fun c9 => kt c9 H locs ls hP hD hS hl) (fun c9 => kf c9 H locs ls hP hD hS hl)
theorem q_icmp_ge {x y : Int32} {off : Int} (tgt : Nat) (K : kK M cc nL own fr lo) (hdg : decode cc pc = .ok (.if_icmp .ge off, 3)) (ht : (pc : Int) + off = (tgt : Int)) (kt : y ≤ x → kJ M nL tgt lv st ws) (kf : ¬ y ≤ x → kJ M nL (pc + 3) lv st ws) : kJ M nL pc lv (.int y :: .int x :: st) ws := fun H locs ls hP hD hS hl => by obtain ⟨hx, hb, -⟩ := K; exact lv_icmp_ge hx hb hdg ht (fun c9 => kt c9 H locs ls hP hD hS hl) (fun c9 => kf c9 H locs ls hP hD hS hl)
theorem q_if_gt {x : Int32} {off : Int} (tgt : Nat) (K : kK M cc nL own fr lo) (hdg : decode cc pc = .ok (.ifCond .gt off, 3)) (ht : (pc : Int) + off = (tgt : Int)) (kt : 0 < x → kJ M nL tgt lv st ws) (kf : ¬ 0 < x → kJ M nL (pc + 3) lv st ws) : kJ M nL pc lv (.int x :: st) ws := fun H locs ls hP hD hS hl => by obtain ⟨hx, hb, -⟩ := K; exact lv_if_gt hx hb hdg ht (fun c9 => kt c9 H locs ls hP hD hS hl) (fun c9 => kf c9 H locs ls hP hD hS hl)
theorem q_icmp_gt {x y : Int32} {off : Int} (tgt : Nat) (K : kK M cc nL own fr lo) (hdg : decode cc pc = .ok (.if_icmp .gt off, 3)) (ht : (pc : Int) + off = (tgt : Int)) (kt : y < x → kJ M nL tgt lv st ws) (kf : ¬ y < x → kJ M nL (pc + 3) lv st ws) : kJ M nL pc lv (.int y :: .int x :: st) ws := fun H locs ls hP hD hS hl => by obtain ⟨hx, hb, -⟩ := K; exact lv_icmp_gt hx hb hdg ht (fun c9 => kt c9 H locs ls hP hD hS hl) (fun c9 => kf c9 H locs ls hP hD hS hl)
theorem q_if_le {x : Int32} {off : Int} (tgt : Nat) (K : kK M cc nL own fr lo) (hdg : decode cc pc = .ok (.ifCond .le off, 3)) (ht : (pc : Int) + off = (tgt : Int)) (kt : x ≤ 0 → kJ M nL tgt lv st ws) (kf : ¬ x ≤ 0 → kJ M nL (pc + 3) lv st ws) : kJ M nL pc lv (.int x :: st) ws := fun H locs ls hP hD hS hl => by obtain ⟨hx, hb, -⟩ := K; exact lv_if_le hx hb hdg ht (fun c9 => kt c9 H locs ls hP hD hS hl) (fun c9 => kf c9 H locs ls hP hD hS hl)
theorem q_icmp_le {x y : Int32} {off : Int} (tgt : Nat) (K : kK M cc nL own fr lo) (hdg : decode cc pc = .ok (.if_icmp .le off, 3)) (ht : (pc : Int) + off = (tgt : Int)) (kt : x ≤ y → kJ M nL tgt lv st ws) (kf : ¬ x ≤ y → kJ M nL (pc + 3) lv st ws) : kJ M nL pc lv (.int y :: .int x :: st) ws := fun H locs ls hP hD hS hl => by obtain ⟨hx, hb, -⟩ := K; exact lv_icmp_le hx hb hdg ht (fun c9 => kt c9 H locs ls hP hD hS hl) (fun c9 => kf c9 H locs ls hP hD hS hl)
theorem q_goto {off : Int} (tgt : Nat) (K : kK M cc nL own fr lo) (hdg : decode cc pc = .ok (.goto off, 3)) (ht : (pc : Int) + off = (tgt : Int)) (kk : kJ M nL tgt lv st ws) : kJ M nL pc lv st ws := fun H locs ls hP hD hS hl => by obtain ⟨hx, hb, -⟩ := K; exact lv_goto hx hb hdg ht (kk H locs ls hP hD hS hl)
theorem q_tableOut {dflt a9 b9 : Int} {offs : Array Int} {len : Nat} {x : Int32} (tgt : Nat) (K : kK M cc nL own fr lo) (hdg : decode cc pc = .ok (.tableswitch dflt a9 b9 offs, len)) (h : x.toInt < a9 ∨ b9 < x.toInt) (ht : (pc : Int) + dflt = (tgt : Int)) (kk : kJ M nL tgt lv st ws) : kJ M nL pc lv (.int x :: st) ws := fun H locs ls hP hD hS hl => by obtain ⟨hx, hb, -⟩ := K; exact lv_tableOut hx hb hdg h ht (kk H locs ls hP hD hS hl)
theorem q_tableIn {dflt a9 b9 : Int} {offs : Array Int} {len : Nat} {x : Int32} {off : Int} (tgt : Nat) (K : kK M cc nL own fr lo) (hdg : decode cc pc = .ok (.tableswitch dflt a9 b9 offs, len)) (h1 : ¬ x.toInt < a9) (h2 : ¬ b9 < x.toInt) (ho : offs[(x.toInt - a9).toNat]? = some off) (ht : (pc : Int) + off = (tgt : Int)) (kk : kJ M nL tgt lv st ws) : kJ M nL pc lv (.int x :: st) ws := fun H locs ls hP hD hS hl => by obtain ⟨hx, hb, -⟩ := K; exact lv_tableIn hx hb hdg h1 h2 ho ht (kk H locs ls hP hD hS hl)
theorem q_get {C : String} {T : u_T} {N ci i a : Nat} {fs : List Value} (v : Value) (K : kK M cc nL own fr lo) (hin : ∀ w ∈ u_ws C T N, w ∈ tw_T) (q0 : Nat) (he : ws[q0]? = some (a, .inr (ci, fs))) (hc : vwCl[ci]? = some (C, T, N)) (k : Nat) (hk : k < N) (hlink : Cond.fieldLink own i (T k).1 (T k).2.1 (T k).2.2.1 ∈ tw_T) (hv : fs[k]? = some v) (hdg : decode cc pc = .ok (.getfield i, 3)) (kk : kJ M nL (pc + 3) lv (v :: st) ws) : kJ M nL pc lv (.ref a :: st) ws := fun H locs ls hP hD hS hl => by
  obtain ⟨hx, hb, -, ho, ht, hK, -⟩ := K
  exact va_get hx hb ht hin ho hK hP q0 he hc k hk (ht _ hlink) (fun _ h => h) hv hdg (kk H locs ls hP hD hS hl)
theorem q_put {C : String} {T : u_T} {N ci i a : Nat} {fs : List Value} {ty : FieldType} {v : Value} {ws' : va_W} (K : kK M cc nL own fr lo) (hin : ∀ w ∈ u_ws C T N, w ∈ tw_T) (ty0 : Nat → FieldType) (hty : ∀ k, k < N → parseFieldDescriptor (T k).2.2.1 = some (ty0 k)) (hnm : ∀ a, a < N → ∀ b, b < N → a ≠ b → (T a).2.1 ≠ (T b).2.1) (q0 : Nat) (he : ws[q0]? = some (a, .inr (ci, fs))) (hc : vwCl[ci]? = some (C, T, N)) (k : Nat) (hk : k < N) (hlink : Cond.fieldLink own i (T k).1 (T k).2.1 (T k).2.2.1 ∈ tw_T) (hfin : (T k).2.2.2 = false) (hd : parseFieldDescriptor (T k).2.2.1 = some ty) (hn : narrow ty v = v) (hfit : fits ty v = true) (hl9 : k < fs.length) (hw : ws.set q0 (a, .inr (ci, fs.set k v)) = ws') (hdg : decode cc pc = .ok (.putfield i, 3)) (kk : kJ M nL (pc + 3) lv st ws') : kJ M nL pc lv (v :: .ref a :: st) ws := fun H locs ls hP hD hS hl => by
  obtain ⟨hx, hb, -, ho, ht, hK, -⟩ := K
  subst hw
  exact va_put hx hb ht hin ty0 hty hnm ho hK hP hD hS q0 he hc k hk (ht _ hlink) (fun _ h => h) hfin hd hn hfit hl9 hdg (fun H1 locs1 hP1 hD1 hS1 => kk H1 locs1 ls hP1 hD1 hS1 hl)
theorem q_iald {a n : Nat} {f : Nat → Int32} {i : Int32} (K : kK M cc nL own fr lo) (q0 : Nat) (ha : ws[q0]? = some (a, .inl ((k_Z M).2.1 0, n, .inl f))) (hin : vp_in i n) (hdg : decode cc pc = .ok (.iaload, 1)) (kk : kJ M nL (pc + 1) lv (.int (f i.toNatClampNeg) :: st) ws) : kJ M nL pc lv (.int i :: .ref a :: st) ws := fun H locs ls hP hD hS hl => by
  obtain ⟨hx, hb, -, ho, ht, hK, -⟩ := K
  exact va_iald hx hb hK hP q0 0 ha rfl hin hdg (kk H locs ls hP hD hS hl)
theorem q_bald {a n : Nat} {f : Nat → Int32} {i : Int32} (K : kK M cc nL own fr lo) (q0 : Nat) (ha : ws[q0]? = some (a, .inl ((k_Z M).2.1 2, n, .inl f))) (hin : vp_in i n) (hdg : decode cc pc = .ok (.baload, 1)) (kk : kJ M nL (pc + 1) lv (.int (f i.toNatClampNeg) :: st) ws) : kJ M nL pc lv (.int i :: .ref a :: st) ws := fun H locs ls hP hD hS hl => by
  obtain ⟨hx, hb, -, ho, ht, hK, -⟩ := K
  exact va_bald hx hb hK hP q0 2 ha rfl hin hdg (kk H locs ls hP hD hS hl)
theorem q_cald {a n : Nat} {f : Nat → Int32} {i : Int32} (K : kK M cc nL own fr lo) (q0 : Nat) (ha : ws[q0]? = some (a, .inl ((k_Z M).2.1 3, n, .inl f))) (hin : vp_in i n) (hdg : decode cc pc = .ok (.caload, 1)) (kk : kJ M nL (pc + 1) lv (.int (f i.toNatClampNeg) :: st) ws) : kJ M nL pc lv (.int i :: .ref a :: st) ws := fun H locs ls hP hD hS hl => by
  obtain ⟨hx, hb, -, ho, ht, hK, -⟩ := K
  exact va_cald hx hb hK hP q0 3 ha rfl hin hdg (kk H locs ls hP hD hS hl)
theorem q_aldg {a n y : Nat} {f : Nat → Option Nat} {i : Int32} (K : kK M cc nL own fr lo) (q0 : Nat) (ha : ws[q0]? = some (a, .inl ((k_Z M).2.1 1, n, .inr (.inr (.inr (.inr f)))))) (hin : vp_in i n) (hy : f i.toNatClampNeg = some y) (hdg : decode cc pc = .ok (.aaload, 1)) (kk : kJ M nL (pc + 1) lv (.ref y :: st) ws) : kJ M nL pc lv (.int i :: .ref a :: st) ws := fun H locs ls hP hD hS hl => by
  obtain ⟨hx, hb, -, ho, ht, hK, -⟩ := K
  have hlt : i.toNatClampNeg < n := Nat.not_le.mp fun q => hin (Or.inr q)
  exact W.aald (v := .ref y) (ty := .array .int) hx hb (hP q0 _ ha) ((hK.2 1 _ rfl).1 n (fun j => va_rf (f j))) rfl (fun q => by cases q) (by show ¬ (i < 0 ∨ (arrV _ _ _).slots.size ≤ _); rw [arrV_size]; exact hin) (by show (arrV _ _ _).slots[_]? = _; rw [arrV_read _ _ hlt, hy]; rfl) rfl rfl hdg (kk H locs ls hP hD hS hl)
theorem q_aldo {a n y : Nat} {f : Nat → Option Nat} {i : Int32} (K : kK M cc nL own fr lo) (q0 : Nat) (ha : ws[q0]? = some (a, .inl ((k_Z M).2.1 4, n, .inr (.inr (.inr (.inr f)))))) (hin : vp_in i n) (hy : f i.toNatClampNeg = some y) (hdg : decode cc pc = .ok (.aaload, 1)) (kk : kJ M nL (pc + 1) lv (.ref y :: st) ws) : kJ M nL pc lv (.int i :: .ref a :: st) ws := fun H locs ls hP hD hS hl => by
  obtain ⟨hx, hb, -, ho, ht, hK, -⟩ := K
  exact va_aldq hx hb hK hP q0 4 ha rfl hin hdg (by rw [hy]; exact kk H locs ls hP hD hS hl)
theorem q_iast {a n : Nat} {f : Nat → Int32} {i x : Int32} {ws' : va_W} (K : kK M cc nL own fr lo) (q0 : Nat) (ha : ws[q0]? = some (a, .inl ((k_Z M).2.1 0, n, .inl f))) (hin : vp_in i n) (hw : ws.set q0 (a, .inl ((k_Z M).2.1 0, n, .inl (upd f i.toNatClampNeg x))) = ws') (hdg : decode cc pc = .ok (.iastore, 1)) (kk : kJ M nL (pc + 1) lv st ws') : kJ M nL pc lv (.int x :: .int i :: .ref a :: st) ws := fun H locs ls hP hD hS hl => by
  obtain ⟨hx, hb, -, ho, ht, hK, -⟩ := K
  subst hw
  exact va_iast hx hb hK hP hD hS q0 0 ha rfl hin hdg (fun H1 locs1 hP1 hD1 hS1 => kk H1 locs1 ls hP1 hD1 hS1 hl)
theorem q_bast {a n : Nat} {f : Nat → Int32} {i x : Int32} {ws' : va_W} (K : kK M cc nL own fr lo) (q0 : Nat) (ha : ws[q0]? = some (a, .inl ((k_Z M).2.1 2, n, .inl f))) (hin : vp_in i n) (hw : ws.set q0 (a, .inl ((k_Z M).2.1 2, n, .inl (upd f i.toNatClampNeg (vp_nar .byte x)))) = ws') (hdg : decode cc pc = .ok (.bastore, 1)) (kk : kJ M nL (pc + 1) lv st ws') : kJ M nL pc lv (.int x :: .int i :: .ref a :: st) ws := fun H locs ls hP hD hS hl => by
  obtain ⟨hx, hb, -, ho, ht, hK, -⟩ := K
  subst hw
  exact va_bast hx hb hK hP hD hS q0 2 ha rfl hin hdg (fun H1 locs1 hP1 hD1 hS1 => kk H1 locs1 ls hP1 hD1 hS1 hl)
theorem q_copy {a0 a1 n0 n1 i : Nat} {f g : Nat → Int32} {sp dp n : Int32} {ws' : va_W} (K : kK M cc nL own fr lo) (hm : Cond.methodLink own i arraycopyName ∈ tw_T) (q0 q1 : Nat) (ha0 : ws[q0]? = some (a0, .inl ((k_Z M).2.1 0, n0, .inl f))) (ha1 : ws[q1]? = some (a1, .inl ((k_Z M).2.1 0, n1, .inl g))) (h1 : ¬ sp < 0) (h2 : ¬ dp < 0) (h3 : ¬ n < 0) (h4 : sp.toNatClampNeg + n.toNatClampNeg ≤ n0) (h5 : dp.toNatClampNeg + n.toNatClampNeg ≤ n1) (hfr : 1 ≤ fr) (hlo : (st.map fun v => v.category).sum + (nativeFrameWords "java/lang/System" "arraycopy" 5 + 11) ≤ lo) (hw : ws.set q1 (a1, .inl ((k_Z M).2.1 0, n1, .inl (va_cpy f g sp.toNatClampNeg dp.toNatClampNeg n.toNatClampNeg))) = ws') (hdg : decode cc pc = .ok (.invokestatic i, 3)) (kk : kJ M nL (pc + 3) lv st ws') : kJ M nL pc lv (.int n :: .int dp :: .ref a1 :: .int sp :: .ref a0 :: st) ws := fun H locs ls hP hD hS hl => by
  obtain ⟨hx, hb, hml, ho, ht, hK, -, -, ⟨hf, hl9⟩, -⟩ := K
  subst hw
  exact va_copyi hx hb (hml.trans hl.1.symm) ho (ht _ hm) (ht _ na_arraycopy) (ht _ sm_arraycopy) (ht _ in_J10) hK hP hD hS q0 q1 0 0 ha0 ha1 rfl rfl rfl h1 h2 h3 h4 h5 (fun j _ => rfl) (by rw [hf]; exact hfr) (by rw [hl9]; exact hlo) hdg (fun H1 locs1 hP1 hD1 hS1 => kk H1 locs1 ls hP1 hD1 hS1 hl)
/-- the class's tables -/
theorem q_most {i : Nat} (K : kK M cc nL RX3 fr lo) (hlink : Cond.fieldLink RX3 i RX3 "MOST_OF_PART" "[I" ∈ tw_T) (hdg : decode cc pc = .ok (.getstatic i, 3)) (kk : kJ M nL (pc + 3) lv (.ref ((k_Z M).2.2 0) :: st) ws) : kJ M nL pc lv st ws := fun H locs ls hP hD hS hl => by
  obtain ⟨hx, hb, hml, ho, ht, hK, -, hZ, -⟩ := K
  exact va_gets hx hb hZ.1.1 hS ho (ht _ hlink) (fun _ h => h) hdg (kk H locs ls hP hD hS hl)
theorem q_above {i : Nat} (K : kK M cc nL RX3 fr lo) (hlink : Cond.fieldLink RX3 i RX3 "KIND_ABOVE" "[I" ∈ tw_T) (hdg : decode cc pc = .ok (.getstatic i, 3)) (kk : kJ M nL (pc + 3) lv (.ref ((k_Z M).2.2 1) :: st) ws) : kJ M nL pc lv st ws := fun H locs ls hP hD hS hl => by
  obtain ⟨hx, hb, hml, ho, ht, hK, -, hZ, -⟩ := K
  exact va_gets hx hb hZ.2.1 hS ho (ht _ hlink) (fun _ h => h) hdg (kk H locs ls hP hD hS hl)
theorem q_mostld {i v : Int32} (K : kK M cc nL own fr lo) (hin : vp_in i 5) (hv : k_most i.toNatClampNeg = .int v) (hdg : decode cc pc = .ok (.iaload, 1)) (kk : kJ M nL (pc + 1) lv (.int v :: st) ws) : kJ M nL pc lv (.int i :: .ref ((k_Z M).2.2 0) :: st) ws := fun H locs ls hP hD hS hl => by
  obtain ⟨hx, hb, hml, ho, ht, hK, -, hZ, -⟩ := K
  exact va_ti hx hb hZ.1.2 hS hin hv hdg (kk H locs ls hP hD hS hl)
theorem q_aboveld {i v : Int32} (K : kK M cc nL own fr lo) (hin : vp_in i 7) (hv : k_above i.toNatClampNeg = .int v) (hdg : decode cc pc = .ok (.iaload, 1)) (kk : kJ M nL (pc + 1) lv (.int v :: st) ws) : kJ M nL pc lv (.int i :: .ref ((k_Z M).2.2 1) :: st) ws := fun H locs ls hP hD hS hl => by
  obtain ⟨hx, hb, hml, ho, ht, hK, -, hZ, -⟩ := K
  exact va_ti hx hb hZ.2.2 hS hin hv hdg (kk H locs ls hP hD hS hl)
end KJ
/-! contracts -/
def kc_P (Z : kz_Z) (sz : Nat) (w : va_W) : State → Prop := fun U => U.heap.size = sz ∧ va_P Z.1 vwCl w U.heap ∧ va_K Z.1 vwCl (k_ty Z) U ∧ va_D (fun _ => True) w ∧ k_S Z (va_A w sz) U U.heap
def kc_B (Z : kz_Z) (A : Nat → Prop) : va_W → State → Prop := fun w t => va_P Z.1 vwCl w t.heap ∧ va_K Z.1 vwCl (k_ty Z) t ∧ va_D A w
def KI (l : Launch) (Z : kz_Z) (y : MethodName) (cc : ByteArray) (nL : Nat) (ty : FieldType) (fr lo : Nat) (av : List Value) (w : va_W) (Post : Int32 → va_W → Prop) : Prop := ∀ sz : Nat, Met l y (.code y cc nL (some ty) :: tw_T) { frames := fr, cells := 0, slots := 0, locals := lo } (va_Pc av (kc_P Z sz w)) (va_Qi Post (kc_B Z (va_A w sz)) (va_A w sz)) 0 0 (va_A w sz)
def KL (l : Launch) (Z : kz_Z) (y : MethodName) (cc : ByteArray) (nL : Nat) (fr lo : Nat) (av : List Value) (w : va_W) (Post : Int64 → va_W → Prop) : Prop := ∀ sz : Nat, Met l y (.code y cc nL (some .long) :: tw_T) { frames := fr, cells := 0, slots := 0, locals := lo } (va_Pc av (kc_P Z sz w)) (va_Ql Post (kc_B Z (va_A w sz)) (va_A w sz)) 0 0 (va_A w sz)
def KV (l : Launch) (Z : kz_Z) (y : MethodName) (cc : ByteArray) (nL : Nat) (fr lo : Nat) (av : List Value) (w : va_W) (Post : va_W → Prop) : Prop := ∀ sz : Nat, Met l y (.code y cc nL none :: tw_T) { frames := fr, cells := 0, slots := 0, locals := lo } (va_Pc av (kc_P Z sz w)) (va_Qv Post (kc_B Z (va_A w sz)) (va_A w sz)) 0 0 (va_A w sz)
theorem kc_blind {Z : kz_Z} {sz : Nat} {w : va_W} {av : List Value} : FrameBlind (va_Pc av (kc_P Z sz w)) := fun a U g mk q => by
  obtain ⟨q0, q1, qP, qK, qD, qS⟩ := q
  exact ⟨q0, q1, qP, va_K.moved (u := U) (U := U.calling g mk a) (Vm.Alike.refl U.vm) qK, qD, k_S.moved (u := U) (U := U.calling g mk a) (Vm.Alike.refl U.vm) qS⟩
end
section
section KC
variable {l : Launch} {Z : kz_Z} {y : MethodName} {cc : ByteArray} {nL : Nat} {fr lo : Nat} {av : List Value} {w : va_W}
theorem ki_of {ty : FieldType} {Post : Int32 → va_W → Prop} (hy : plainName y.cls = true) (lv0 : List (Nat × Value)) (hav : (lg_sl av).length ≤ nL) (hlv : lv_args 0 av = lv0)
    (body : ∀ M : kT, k_l M = l → k_Z M = Z → kK M cc nL y.cls fr lo → (∀ (pc : Nat) (lv : List (Nat × Value)) (v : Int32) (w' : va_W), decode cc pc = .ok (.ireturn, 1) → narrow ty (.int v) = .int v → Post v w' → kJ M nL pc lv [.int v] w') → kJ M nL 0 lv0 [] w) : KI l Z y cc nL ty fr lo av w Post := by
  intro sz
  refine Met.ofW (cc := cc) (maxL := nL) (ret := some ty) hy rfl ?_
  intro p e s m args below meth c s₁ B hml hv
  obtain ⟨rfl, hsz, hP, hK, hD0, hS0⟩ := hv
  subst hsz
  have hts := atoms_spec (ws := .code y cc nL (some ty) :: tw_T) B.pre
  have hl := lv_entry av (n := nL) hav
  rw [hlv] at hl
  rw [lg_entry_eq]
  refine body ((p, l, e, { frames := fr, cells := 0, slots := 0, locals := lo }, s), (m, av.toArray, below, meth, c), (va_A w s.heap.size, _, Z, 0, 0)) rfl rfl ⟨B.exec, B.bytes, hml, findClass_of_methodNamed B.named, fun w9 h9 => hts w9 (List.mem_cons_of_mem _ h9), hK, fun q h => Or.inr h, hS0, ⟨rfl, rfl⟩, Nat.le_refl 0, Nat.le_refl 0⟩ ?_ s.heap [] _ hP (hD0.self) va_S.rf hl
  intro pc lv v w' hdg hn hp H locs ls hP hD hS hl
  exact W.zret B.exec B.bytes B.returns hn (fun t ht hW => ⟨⟨v, w', rfl, hp, ⟨by rw [ht]; exact hP, va_K.moved hW.alike hK, hD⟩⟩, hS.F ht⟩) hS.2.2 hdg B.notSynchronized
theorem kv_of {Post : va_W → Prop} (hy : plainName y.cls = true) (lv0 : List (Nat × Value)) (hav : (lg_sl av).length ≤ nL) (hlv : lv_args 0 av = lv0)
    (body : ∀ M : kT, k_l M = l → k_Z M = Z → kK M cc nL y.cls fr lo → (∀ (pc : Nat) (lv : List (Nat × Value)) (w' : va_W), decode cc pc = .ok (.return_, 1) → Post w' → kJ M nL pc lv [] w') → kJ M nL 0 lv0 [] w) : KV l Z y cc nL fr lo av w Post := by
  intro sz
  refine Met.ofW (cc := cc) (maxL := nL) (ret := none) hy rfl ?_
  intro p e s m args below meth c s₁ B hml hv
  obtain ⟨rfl, hsz, hP, hK, hD0, hS0⟩ := hv
  subst hsz
  have hts := atoms_spec (ws := .code y cc nL none :: tw_T) B.pre
  have hl := lv_entry av (n := nL) hav
  rw [hlv] at hl
  rw [lg_entry_eq]
  refine body ((p, l, e, { frames := fr, cells := 0, slots := 0, locals := lo }, s), (m, av.toArray, below, meth, c), (va_A w s.heap.size, _, Z, 0, 0)) rfl rfl ⟨B.exec, B.bytes, hml, findClass_of_methodNamed B.named, fun w9 h9 => hts w9 (List.mem_cons_of_mem _ h9), hK, fun q h => Or.inr h, hS0, ⟨rfl, rfl⟩, Nat.le_refl 0, Nat.le_refl 0⟩ ?_ s.heap [] _ hP (hD0.self) va_S.rf hl
  intro pc lv w' hdg hp H locs ls hP hD hS hl
  exact W.vret B.exec B.bytes B.returns (fun t ht hW => ⟨⟨w', rfl, hp, ⟨by rw [ht]; exact hP, va_K.moved hW.alike hK, hD⟩⟩, hS.F ht⟩) hS.2.2 hdg B.notSynchronized
theorem kl_of {Post : Int64 → va_W → Prop} (hy : plainName y.cls = true) (lv0 : List (Nat × Value)) (hav : (lg_sl av).length ≤ nL) (hlv : lv_args 0 av = lv0)
    (body : ∀ M : kT, k_l M = l → k_Z M = Z → kK M cc nL y.cls fr lo → (∀ (pc : Nat) (lv : List (Nat × Value)) (v : Int64) (w' : va_W), decode cc pc = .ok (.lreturn, 1) → Post v w' → kJ M nL pc lv [.long v] w') → kJ M nL 0 lv0 [] w) : KL l Z y cc nL fr lo av w Post := by
  intro sz
  refine Met.ofW (cc := cc) (maxL := nL) (ret := some .long) hy rfl ?_
  intro p e s m args below meth c s₁ B hml hv
  obtain ⟨rfl, hsz, hP, hK, hD0, hS0⟩ := hv
  subst hsz
  have hts := atoms_spec (ws := .code y cc nL (some .long) :: tw_T) B.pre
  have hl := lv_entry av (n := nL) hav
  rw [hlv] at hl
  rw [lg_entry_eq]
  refine body ((p, l, e, { frames := fr, cells := 0, slots := 0, locals := lo }, s), (m, av.toArray, below, meth, c), (va_A w s.heap.size, _, Z, 0, 0)) rfl rfl ⟨B.exec, B.bytes, hml, findClass_of_methodNamed B.named, fun w9 h9 => hts w9 (List.mem_cons_of_mem _ h9), hK, fun q h => Or.inr h, hS0, ⟨rfl, rfl⟩, Nat.le_refl 0, Nat.le_refl 0⟩ ?_ s.heap [] _ hP (hD0.self) va_S.rf hl
  intro pc lv v w' hdg hp H locs ls hP hD hS hl
  exact W.lret B.exec B.bytes B.returns (fun t ht hW => ⟨⟨v, w', rfl, hp, ⟨by rw [ht]; exact hP, va_K.moved hW.alike hK, hD⟩⟩, hS.F ht⟩) hS.2.2 hdg B.notSynchronized
end KC
/-- what the tables say of an instance method, of a static one -/
def k_iv (y : MethodName) (cy : ByteArray) (nLy : Nat) (rt : Option FieldType) (n : Nat) : Prop := (Cond.instanceMethod y ∈ tw_T ∧ Cond.selects y.cls y y ∈ tw_T) ∧ Cond.initialized y.cls ∈ tw_T ∧ Cond.code y cy nLy rt ∈ tw_T ∧ (y.cls ≠ "java/lang/invoke/MethodHandle" ∧ y.cls ≠ "java/lang/invoke/VarHandle" ∧ (parseMethodDescriptor y.desc).map (fun d => d.parameters.length) = some n)
def k_is (y : MethodName) (cy : ByteArray) (nLy : Nat) (rt : Option FieldType) (n : Nat) : Prop := Cond.static y ∈ tw_T ∧ Cond.initialized y.cls ∈ tw_T ∧ Cond.code y cy nLy rt ∈ tw_T ∧ (y.cls ≠ "java/lang/invoke/MethodHandle" ∧ y.cls ≠ "java/lang/invoke/VarHandle" ∧ (parseMethodDescriptor y.desc).map (fun d => d.parameters.length) = some n)
theorem k_good {y : MethodName} {cy : ByteArray} {nLy : Nat} {rt : Option FieldType} (h : Cond.code y cy nLy rt ∈ tw_T) : GoodIn tw_T (.code y cy nLy rt :: tw_T) := fun w hw => by
  have h9 : w ∈ tw_T := by
    rcases List.mem_cons.mp hw with e | e
    · rw [e]; exact h
    · exact e
  exact ⟨h9, good_of_word (tw_good w h9)⟩
section KD
variable {M : kT} {cc cy : ByteArray} {nL nLy : Nat} {own : String} {fr lo frY loY pc i n b : Nat} {lv : List (Nat × Value)} {st rest As : List Value} {ws wc : va_W} {y : MethodName}
theorem k_enter (X Y : va_W) (hws : ws = X ++ (wc ++ Y)) {H : Heap} {locs : List Loc} (hK : va_K (k_Z M).1 vwCl (k_ty (k_Z M)) (k_s M)) (hZ : k_S (k_Z M) (k_W M) (k_s M) (k_s M).heap) (hA : ∀ q, (k_s M).heap.size ≤ q → k_W M q) (hP : va_P (k_Z M).1 vwCl ws H) (hD : va_D (k_W M) ws) (hS : va_S (k_W M) (k_s M).heap H locs) :
    (∀ q, va_A wc H.size q → k_W M q) ∧ ∀ U : State, U.heap = H → (k_s M).WarmedH U.vm → kc_P (k_Z M) H.size wc U := by
  subst hws
  have hF : ∀ q, va_A wc H.size q → k_W M q := fun q h => by
    rcases k_A.mp h with ⟨e, h⟩ | h
    · exact (k_D.mp hD).2 (q, e) (List.mem_append_right _ (List.mem_append_left _ h))
    · exact hA q (Nat.le_trans hS.1 h)
  refine ⟨hF, fun U hU hW => ⟨by rw [hU], by rw [hU]; exact k_P.mpr fun q hq => k_P.mp hP q (List.mem_append_right _ (List.mem_append_left _ hq)), va_K.moved hW.alike hK, ?_, ?_⟩⟩
  · obtain ⟨h1, -⟩ := k_D.mp hD
    exact k_D.mpr ⟨(List.pairwise_append.mp (List.pairwise_append.mp h1).2.1).1, fun _ _ => trivial⟩
  · rw [hU]
    exact ((hZ.kept (fun a h1 h2 => hS.2.1 a h1 h2)).narrow hF).moved hW.alike
theorem q_cvI {ty : FieldType} {Post : Int32 → va_W → Prop} {ci q0 : Nat} {fs : List Value} {T : u_T} {N : Nat} (K : kK M cc nL own fr lo) (I : k_iv y cy nLy (some ty) n) (hM : KI (k_l M) (k_Z M) y cy nLy ty frY loY (.ref b :: As) wc Post) (X Y : va_W) (hws : ws = X ++ (wc ++ Y)) (hb9 : wc[q0]? = some (b, .inr (ci, fs))) (hc9 : vwCl[ci]? = some (y.cls, T, N)) (hlk : Cond.methodLink own i y ∈ tw_T) (hn : As.length = n) (hst : st = As.reverse ++ .ref b :: rest) (hrm : (rest.map fun v => v.category).sum ≤ 8) (hR : frY + 1 ≤ fr ∧ 8 + (nLy + 11) + loY ≤ lo) (hdg : decode cc pc = .ok (.invokevirtual i, 3))
    (kk : ∀ (r : Int32) (w' : va_W), Post r w' → kJ M nL (pc + 3) lv (.int r :: rest) (X ++ (w' ++ Y))) : kJ M nL pc lv st ws := fun H locs ls hP hD hS hl => by
  obtain ⟨hx, hb, hml, ho, ht, hK, hA, hZ, ⟨hf, hl9⟩, hcs, hsl⟩ := K
  obtain ⟨⟨i1, i2⟩, i3, i4, i5, i6, i7⟩ := I
  obtain ⟨hF, hU⟩ := k_enter X Y hws hK hZ hA hP hD hS
  have hPc : va_P (k_Z M).1 vwCl wc H := by
    rw [hws] at hP
    exact k_P.mpr fun q hq => k_P.mp hP q (List.mem_append_right _ (List.mem_append_left _ hq))
  have cb : CallW (k_R M) (k_s M) (k_a M) own y.cls i y cy nLy (some ty) (.code y cy nLy (some ty) :: tw_T) { frames := frY, cells := 0, slots := 0, locals := loY } 0 0 n := ⟨callB_of n ht (k_good i4) rfl rfl rfl (ht _ i3) (ht _ hlk) ⟨i5, i6, i7⟩ ⟨by rw [hf]; exact hR.1, by rw [hl9]; exact hR.2⟩, ht _ i1, ht _ i2⟩
  subst hst
  refine va_calli (va_runV (As := As) (rest := rest) ⟨hx, hb, hml, ho, ht⟩ (hM H.size) cb ⟨kc_blind, va_recv hK hPc hc9 hb9, fun U h1 h2 => ⟨rfl, hU U h1 h2⟩⟩ rfl hn hl.1 rfl (lv_room hrm) hdg ⟨hcs, hsl⟩) hS (fun q _ h => hF q h) hF (fun r w' t H1 locs1 ht9 hvm hp hB hz hk hS1 => ?_)
  obtain ⟨hP1, hK1, hD1⟩ := hB
  rw [ht9] at hP1
  rw [hws] at hP hD
  obtain ⟨hP2, hD2⟩ := k_fr hP hD hk hF hP1 hD1
  exact kk r w' hp H1 locs1 ls hP2 hD2 hS1 hl
theorem q_csI {ty : FieldType} {Post : Int32 → va_W → Prop} (K : kK M cc nL own fr lo) (I : k_is y cy nLy (some ty) n) (hM : KI (k_l M) (k_Z M) y cy nLy ty frY loY As wc Post) (X Y : va_W) (hws : ws = X ++ (wc ++ Y)) (hlk : Cond.methodLink own i y ∈ tw_T) (hn : As.length = n) (hst : st = As.reverse ++ rest) (hrm : (rest.map fun v => v.category).sum ≤ 8) (hR : frY + 1 ≤ fr ∧ 8 + (nLy + 11) + loY ≤ lo) (hdg : decode cc pc = .ok (.invokestatic i, 3))
    (kk : ∀ (r : Int32) (w' : va_W), Post r w' → kJ M nL (pc + 3) lv (.int r :: rest) (X ++ (w' ++ Y))) : kJ M nL pc lv st ws := fun H locs ls hP hD hS hl => by
  obtain ⟨hx, hb, hml, ho, ht, hK, hA, hZ, ⟨hf, hl9⟩, hcs, hsl⟩ := K
  obtain ⟨i1, i3, i4, i5, i6, i7⟩ := I
  obtain ⟨hF, hU⟩ := k_enter X Y hws hK hZ hA hP hD hS
  have cb : CallB (k_R M) (k_s M) (k_a M) own i y cy nLy (some ty) (.code y cy nLy (some ty) :: tw_T) { frames := frY, cells := 0, slots := 0, locals := loY } 0 0 n := callB_of n ht (k_good i4) rfl rfl rfl (ht _ i3) (ht _ hlk) ⟨i5, i6, i7⟩ ⟨by rw [hf]; exact hR.1, by rw [hl9]; exact hR.2⟩
  subst hst
  refine va_calli (va_runS (As := As) (rest := rest) ⟨hx, hb, hml, ho, ht⟩ (hM H.size) ⟨cb, ht _ i1⟩ ⟨kc_blind, fun U h1 h2 => ⟨rfl, hU U h1 h2⟩⟩ rfl hn hl.1 rfl (lv_room hrm) hdg ⟨hcs, hsl⟩) hS (fun q _ h => hF q h) hF (fun r w' t H1 locs1 ht9 hvm hp hB hz hk hS1 => ?_)
  obtain ⟨hP1, hK1, hD1⟩ := hB
  rw [ht9] at hP1
  rw [hws] at hP hD
  obtain ⟨hP2, hD2⟩ := k_fr hP hD hk hF hP1 hD1
  exact kk r w' hp H1 locs1 ls hP2 hD2 hS1 hl
theorem q_cvL {Post : Int64 → va_W → Prop} {ci q0 : Nat} {fs : List Value} {T : u_T} {N : Nat} (K : kK M cc nL own fr lo) (I : k_iv y cy nLy (some .long) n) (hM : KL (k_l M) (k_Z M) y cy nLy frY loY (.ref b :: As) wc Post) (X Y : va_W) (hws : ws = X ++ (wc ++ Y)) (hb9 : wc[q0]? = some (b, .inr (ci, fs))) (hc9 : vwCl[ci]? = some (y.cls, T, N)) (hlk : Cond.methodLink own i y ∈ tw_T) (hn : As.length = n) (hst : st = As.reverse ++ .ref b :: rest) (hrm : (rest.map fun v => v.category).sum ≤ 8) (hR : frY + 1 ≤ fr ∧ 8 + (nLy + 11) + loY ≤ lo) (hdg : decode cc pc = .ok (.invokevirtual i, 3))
    (kk : ∀ (r : Int64) (w' : va_W), Post r w' → kJ M nL (pc + 3) lv (.long r :: rest) (X ++ (w' ++ Y))) : kJ M nL pc lv st ws := fun H locs ls hP hD hS hl => by
  obtain ⟨hx, hb, hml, ho, ht, hK, hA, hZ, ⟨hf, hl9⟩, hcs, hsl⟩ := K
  obtain ⟨⟨i1, i2⟩, i3, i4, i5, i6, i7⟩ := I
  obtain ⟨hF, hU⟩ := k_enter X Y hws hK hZ hA hP hD hS
  have hPc : va_P (k_Z M).1 vwCl wc H := by
    rw [hws] at hP
    exact k_P.mpr fun q hq => k_P.mp hP q (List.mem_append_right _ (List.mem_append_left _ hq))
  have cb : CallW (k_R M) (k_s M) (k_a M) own y.cls i y cy nLy (some .long) (.code y cy nLy (some .long) :: tw_T) { frames := frY, cells := 0, slots := 0, locals := loY } 0 0 n := ⟨callB_of n ht (k_good i4) rfl rfl rfl (ht _ i3) (ht _ hlk) ⟨i5, i6, i7⟩ ⟨by rw [hf]; exact hR.1, by rw [hl9]; exact hR.2⟩, ht _ i1, ht _ i2⟩
  subst hst
  refine va_calll (va_runV (As := As) (rest := rest) ⟨hx, hb, hml, ho, ht⟩ (hM H.size) cb ⟨kc_blind, va_recv hK hPc hc9 hb9, fun U h1 h2 => ⟨rfl, hU U h1 h2⟩⟩ rfl hn hl.1 rfl (lv_room hrm) hdg ⟨hcs, hsl⟩) hS (fun q _ h => hF q h) hF (fun r w' t H1 locs1 ht9 hvm hp hB hz hk hS1 => ?_)
  obtain ⟨hP1, hK1, hD1⟩ := hB
  rw [ht9] at hP1
  rw [hws] at hP hD
  obtain ⟨hP2, hD2⟩ := k_fr hP hD hk hF hP1 hD1
  exact kk r w' hp H1 locs1 ls hP2 hD2 hS1 hl
theorem q_csL {Post : Int64 → va_W → Prop} (K : kK M cc nL own fr lo) (I : k_is y cy nLy (some .long) n) (hM : KL (k_l M) (k_Z M) y cy nLy frY loY As wc Post) (X Y : va_W) (hws : ws = X ++ (wc ++ Y)) (hlk : Cond.methodLink own i y ∈ tw_T) (hn : As.length = n) (hst : st = As.reverse ++ rest) (hrm : (rest.map fun v => v.category).sum ≤ 8) (hR : frY + 1 ≤ fr ∧ 8 + (nLy + 11) + loY ≤ lo) (hdg : decode cc pc = .ok (.invokestatic i, 3))
    (kk : ∀ (r : Int64) (w' : va_W), Post r w' → kJ M nL (pc + 3) lv (.long r :: rest) (X ++ (w' ++ Y))) : kJ M nL pc lv st ws := fun H locs ls hP hD hS hl => by
  obtain ⟨hx, hb, hml, ho, ht, hK, hA, hZ, ⟨hf, hl9⟩, hcs, hsl⟩ := K
  obtain ⟨i1, i3, i4, i5, i6, i7⟩ := I
  obtain ⟨hF, hU⟩ := k_enter X Y hws hK hZ hA hP hD hS
  have cb : CallB (k_R M) (k_s M) (k_a M) own i y cy nLy (some .long) (.code y cy nLy (some .long) :: tw_T) { frames := frY, cells := 0, slots := 0, locals := loY } 0 0 n := callB_of n ht (k_good i4) rfl rfl rfl (ht _ i3) (ht _ hlk) ⟨i5, i6, i7⟩ ⟨by rw [hf]; exact hR.1, by rw [hl9]; exact hR.2⟩
  subst hst
  refine va_calll (va_runS (As := As) (rest := rest) ⟨hx, hb, hml, ho, ht⟩ (hM H.size) ⟨cb, ht _ i1⟩ ⟨kc_blind, fun U h1 h2 => ⟨rfl, hU U h1 h2⟩⟩ rfl hn hl.1 rfl (lv_room hrm) hdg ⟨hcs, hsl⟩) hS (fun q _ h => hF q h) hF (fun r w' t H1 locs1 ht9 hvm hp hB hz hk hS1 => ?_)
  obtain ⟨hP1, hK1, hD1⟩ := hB
  rw [ht9] at hP1
  rw [hws] at hP hD
  obtain ⟨hP2, hD2⟩ := k_fr hP hD hk hF hP1 hD1
  exact kk r w' hp H1 locs1 ls hP2 hD2 hS1 hl
theorem q_cvV {Post : va_W → Prop} {ci q0 : Nat} {fs : List Value} {T : u_T} {N : Nat} (K : kK M cc nL own fr lo) (I : k_iv y cy nLy none n) (hM : KV (k_l M) (k_Z M) y cy nLy frY loY (.ref b :: As) wc Post) (X Y : va_W) (hws : ws = X ++ (wc ++ Y)) (hb9 : wc[q0]? = some (b, .inr (ci, fs))) (hc9 : vwCl[ci]? = some (y.cls, T, N)) (hlk : Cond.methodLink own i y ∈ tw_T) (hn : As.length = n) (hst : st = As.reverse ++ .ref b :: rest) (hrm : (rest.map fun v => v.category).sum ≤ 8) (hR : frY + 1 ≤ fr ∧ 8 + (nLy + 11) + loY ≤ lo) (hdg : decode cc pc = .ok (.invokevirtual i, 3))
    (kk : ∀ (w' : va_W), Post w' → kJ M nL (pc + 3) lv (rest) (X ++ (w' ++ Y))) : kJ M nL pc lv st ws := fun H locs ls hP hD hS hl => by
  obtain ⟨hx, hb, hml, ho, ht, hK, hA, hZ, ⟨hf, hl9⟩, hcs, hsl⟩ := K
  obtain ⟨⟨i1, i2⟩, i3, i4, i5, i6, i7⟩ := I
  obtain ⟨hF, hU⟩ := k_enter X Y hws hK hZ hA hP hD hS
  have hPc : va_P (k_Z M).1 vwCl wc H := by
    rw [hws] at hP
    exact k_P.mpr fun q hq => k_P.mp hP q (List.mem_append_right _ (List.mem_append_left _ hq))
  have cb : CallW (k_R M) (k_s M) (k_a M) own y.cls i y cy nLy none (.code y cy nLy none :: tw_T) { frames := frY, cells := 0, slots := 0, locals := loY } 0 0 n := ⟨callB_of n ht (k_good i4) rfl rfl rfl (ht _ i3) (ht _ hlk) ⟨i5, i6, i7⟩ ⟨by rw [hf]; exact hR.1, by rw [hl9]; exact hR.2⟩, ht _ i1, ht _ i2⟩
  subst hst
  refine va_callv (va_runV (As := As) (rest := rest) ⟨hx, hb, hml, ho, ht⟩ (hM H.size) cb ⟨kc_blind, va_recv hK hPc hc9 hb9, fun U h1 h2 => ⟨rfl, hU U h1 h2⟩⟩ rfl hn hl.1 rfl (lv_room hrm) hdg ⟨hcs, hsl⟩) hS (fun q _ h => hF q h) hF (fun w' t H1 locs1 ht9 hvm hp hB hz hk hS1 => ?_)
  obtain ⟨hP1, hK1, hD1⟩ := hB
  rw [ht9] at hP1
  rw [hws] at hP hD
  obtain ⟨hP2, hD2⟩ := k_fr hP hD hk hF hP1 hD1
  exact kk w' hp H1 locs1 ls hP2 hD2 hS1 hl
theorem q_csV {Post : va_W → Prop} (K : kK M cc nL own fr lo) (I : k_is y cy nLy none n) (hM : KV (k_l M) (k_Z M) y cy nLy frY loY As wc Post) (X Y : va_W) (hws : ws = X ++ (wc ++ Y)) (hlk : Cond.methodLink own i y ∈ tw_T) (hn : As.length = n) (hst : st = As.reverse ++ rest) (hrm : (rest.map fun v => v.category).sum ≤ 8) (hR : frY + 1 ≤ fr ∧ 8 + (nLy + 11) + loY ≤ lo) (hdg : decode cc pc = .ok (.invokestatic i, 3))
    (kk : ∀ (w' : va_W), Post w' → kJ M nL (pc + 3) lv (rest) (X ++ (w' ++ Y))) : kJ M nL pc lv st ws := fun H locs ls hP hD hS hl => by
  obtain ⟨hx, hb, hml, ho, ht, hK, hA, hZ, ⟨hf, hl9⟩, hcs, hsl⟩ := K
  obtain ⟨i1, i3, i4, i5, i6, i7⟩ := I
  obtain ⟨hF, hU⟩ := k_enter X Y hws hK hZ hA hP hD hS
  have cb : CallB (k_R M) (k_s M) (k_a M) own i y cy nLy none (.code y cy nLy none :: tw_T) { frames := frY, cells := 0, slots := 0, locals := loY } 0 0 n := callB_of n ht (k_good i4) rfl rfl rfl (ht _ i3) (ht _ hlk) ⟨i5, i6, i7⟩ ⟨by rw [hf]; exact hR.1, by rw [hl9]; exact hR.2⟩
  subst hst
  refine va_callv (va_runS (As := As) (rest := rest) ⟨hx, hb, hml, ho, ht⟩ (hM H.size) ⟨cb, ht _ i1⟩ ⟨kc_blind, fun U h1 h2 => ⟨rfl, hU U h1 h2⟩⟩ rfl hn hl.1 rfl (lv_room hrm) hdg ⟨hcs, hsl⟩) hS (fun q _ h => hF q h) hF (fun w' t H1 locs1 ht9 hvm hp hB hz hk hS1 => ?_)
  obtain ⟨hP1, hK1, hD1⟩ := hB
  rw [ht9] at hP1
  rw [hws] at hP hD
  obtain ⟨hP2, hD2⟩ := k_fr hP hD hk hF hP1 hD1
  exact kk w' hp H1 locs1 ls hP2 hD2 hS1 hl
end KD
end
