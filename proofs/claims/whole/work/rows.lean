section
/-- a private method of a class that the tables say can be made, by its rows of tables_1 -/
def lw_okq (q : MethodName × Nat) : Prop := (q.1.cls ≠ "java/lang/invoke/MethodHandle" ∧ q.1.cls ≠ "java/lang/invoke/VarHandle") ∧ Cond.instantiable q.1.cls q.2 ∈ tables_1 ∧ Cond.privateMethod q.1 ∈ tables_1 ∧ Cond.instanceMethod q.1 ∈ tables_1
theorem lw_p0 : lw_okq (⟨"BoundedMachines$HandRun", "restart", "()V"⟩, 6) := ⟨⟨by decide +kernel, by decide +kernel⟩, List.mem_of_getElem? (i := 122) (by decide +kernel), List.mem_of_getElem? (i := 175) (by decide +kernel), List.mem_of_getElem? (i := 176) (by decide +kernel)⟩
theorem lw_p1 : lw_okq (⟨"BoundedMachines$Net", "layAsAtFirst", "([I)V"⟩, 13) := ⟨⟨by decide +kernel, by decide +kernel⟩, List.mem_of_getElem? (i := 23) (by decide +kernel), List.mem_of_getElem? (i := 179) (by decide +kernel), List.mem_of_getElem? (i := 180) (by decide +kernel)⟩
theorem lw_p2 : lw_okq (⟨"BoundedMachines$HandRun", "step", "(I)Z"⟩, 6) := ⟨⟨by decide +kernel, by decide +kernel⟩, List.mem_of_getElem? (i := 122) (by decide +kernel), List.mem_of_getElem? (i := 190) (by decide +kernel), List.mem_of_getElem? (i := 191) (by decide +kernel)⟩
theorem lw_p3 : lw_okq (⟨"BoundedMachines$Net", "settle", "(I[I)V"⟩, 13) := ⟨⟨by decide +kernel, by decide +kernel⟩, List.mem_of_getElem? (i := 23) (by decide +kernel), List.mem_of_getElem? (i := 194) (by decide +kernel), List.mem_of_getElem? (i := 195) (by decide +kernel)⟩
theorem lw_p4 : lw_okq (⟨"BoundedMachines$Net", "lanesOf", "(II[I)I"⟩, 13) := ⟨⟨by decide +kernel, by decide +kernel⟩, List.mem_of_getElem? (i := 23) (by decide +kernel), List.mem_of_getElem? (i := 198) (by decide +kernel), List.mem_of_getElem? (i := 199) (by decide +kernel)⟩
theorem lw_p5 : lw_okq (⟨"BoundedMachines$Net", "firstDifferingPair", "(I[I)I"⟩, 13) := ⟨⟨by decide +kernel, by decide +kernel⟩, List.mem_of_getElem? (i := 23) (by decide +kernel), List.mem_of_getElem? (i := 204) (by decide +kernel), List.mem_of_getElem? (i := 205) (by decide +kernel)⟩
theorem lw_p6 : lw_okq (⟨"BoundedMachines$Net", "rowAfter", "(I[I)I"⟩, 13) := ⟨⟨by decide +kernel, by decide +kernel⟩, List.mem_of_getElem? (i := 23) (by decide +kernel), List.mem_of_getElem? (i := 208) (by decide +kernel), List.mem_of_getElem? (i := 209) (by decide +kernel)⟩
theorem lw_p7 : lw_okq (⟨"BoundedMachines$Hunt", "programWord", "(I)I"⟩, 10) := ⟨⟨by decide +kernel, by decide +kernel⟩, List.mem_of_getElem? (i := 82) (by decide +kernel), List.mem_of_getElem? (i := 216) (by decide +kernel), List.mem_of_getElem? (i := 217) (by decide +kernel)⟩
theorem lw_p8 : lw_okq (⟨"BoundedMachines$Net", "gateCount", "()I"⟩, 13) := ⟨⟨by decide +kernel, by decide +kernel⟩, List.mem_of_getElem? (i := 23) (by decide +kernel), List.mem_of_getElem? (i := 224) (by decide +kernel), List.mem_of_getElem? (i := 225) (by decide +kernel)⟩
theorem lw_p9 : lw_okq (⟨"java/lang/Throwable", "fillInStackTrace", "(I)Ljava/lang/Throwable;"⟩, 6) := ⟨⟨by decide +kernel, by decide +kernel⟩, List.mem_of_getElem? (i := 278) (by decide +kernel), List.mem_of_getElem? (i := 276) (by decide +kernel), List.mem_of_getElem? (i := 277) (by decide +kernel)⟩
theorem lw_p10 : lw_okq (⟨"BoundedMachines$Net", "hasAllStates", "()Z"⟩, 13) := ⟨⟨by decide +kernel, by decide +kernel⟩, List.mem_of_getElem? (i := 23) (by decide +kernel), List.mem_of_getElem? (i := 308) (by decide +kernel), List.mem_of_getElem? (i := 309) (by decide +kernel)⟩
theorem lw_p11 : lw_okq (⟨"BoundedMachines$Net", "hasAllNodes", "()Z"⟩, 13) := ⟨⟨by decide +kernel, by decide +kernel⟩, List.mem_of_getElem? (i := 23) (by decide +kernel), List.mem_of_getElem? (i := 312) (by decide +kernel), List.mem_of_getElem? (i := 313) (by decide +kernel)⟩
theorem lw_p12 : lw_okq (⟨"BoundedMachines$Net", "addState", "(IZ)I"⟩, 13) := ⟨⟨by decide +kernel, by decide +kernel⟩, List.mem_of_getElem? (i := 23) (by decide +kernel), List.mem_of_getElem? (i := 332) (by decide +kernel), List.mem_of_getElem? (i := 333) (by decide +kernel)⟩
theorem lw_p13 : lw_okq (⟨"BoundedMachines$Net", "addNode", "(III)I"⟩, 13) := ⟨⟨by decide +kernel, by decide +kernel⟩, List.mem_of_getElem? (i := 23) (by decide +kernel), List.mem_of_getElem? (i := 336) (by decide +kernel), List.mem_of_getElem? (i := 337) (by decide +kernel)⟩
theorem lw_p14 : lw_okq (⟨"BoundedMachines", "startAnew", "()V"⟩, 3) := ⟨⟨by decide +kernel, by decide +kernel⟩, List.mem_of_getElem? (i := 15) (by decide +kernel), List.mem_of_getElem? (i := 340) (by decide +kernel), List.mem_of_getElem? (i := 341) (by decide +kernel)⟩
theorem lw_p15 : lw_okq (⟨"BoundedMachines$Hunt", "forget", "()V"⟩, 10) := ⟨⟨by decide +kernel, by decide +kernel⟩, List.mem_of_getElem? (i := 82) (by decide +kernel), List.mem_of_getElem? (i := 344) (by decide +kernel), List.mem_of_getElem? (i := 345) (by decide +kernel)⟩
def lw_privs_1 : List (MethodName × Nat) := [(⟨"BoundedMachines$HandRun", "restart", "()V"⟩, 6), (⟨"BoundedMachines$Net", "layAsAtFirst", "([I)V"⟩, 13), (⟨"BoundedMachines$HandRun", "step", "(I)Z"⟩, 6), (⟨"BoundedMachines$Net", "settle", "(I[I)V"⟩, 13), (⟨"BoundedMachines$Net", "lanesOf", "(II[I)I"⟩, 13), (⟨"BoundedMachines$Net", "firstDifferingPair", "(I[I)I"⟩, 13), (⟨"BoundedMachines$Net", "rowAfter", "(I[I)I"⟩, 13), (⟨"BoundedMachines$Hunt", "programWord", "(I)I"⟩, 10), (⟨"BoundedMachines$Net", "gateCount", "()I"⟩, 13), (⟨"java/lang/Throwable", "fillInStackTrace", "(I)Ljava/lang/Throwable;"⟩, 6), (⟨"BoundedMachines$Net", "hasAllStates", "()Z"⟩, 13), (⟨"BoundedMachines$Net", "hasAllNodes", "()Z"⟩, 13), (⟨"BoundedMachines$Net", "addState", "(IZ)I"⟩, 13), (⟨"BoundedMachines$Net", "addNode", "(III)I"⟩, 13), (⟨"BoundedMachines", "startAnew", "()V"⟩, 3), (⟨"BoundedMachines$Hunt", "forget", "()V"⟩, 10)]
theorem lw_r1 : ∀ q ∈ lw_privs_1, lw_okq q := List.forall_mem_cons.mpr ⟨lw_p0, List.forall_mem_cons.mpr ⟨lw_p1, List.forall_mem_cons.mpr ⟨lw_p2, List.forall_mem_cons.mpr ⟨lw_p3, List.forall_mem_cons.mpr ⟨lw_p4, List.forall_mem_cons.mpr ⟨lw_p5, List.forall_mem_cons.mpr ⟨lw_p6, List.forall_mem_cons.mpr ⟨lw_p7, List.forall_mem_cons.mpr ⟨lw_p8, List.forall_mem_cons.mpr ⟨lw_p9, List.forall_mem_cons.mpr ⟨lw_p10, List.forall_mem_cons.mpr ⟨lw_p11, List.forall_mem_cons.mpr ⟨lw_p12, List.forall_mem_cons.mpr ⟨lw_p13, List.forall_mem_cons.mpr ⟨lw_p14, List.forall_mem_cons.mpr ⟨lw_p15, fun _ h => absurd h List.not_mem_nil⟩⟩⟩⟩⟩⟩⟩⟩⟩⟩⟩⟩⟩⟩⟩⟩
theorem lw_p16 : lw_okq (⟨"BoundedMachines$Net", "takesGate", "(III)Z"⟩, 13) := ⟨⟨by decide +kernel, by decide +kernel⟩, List.mem_of_getElem? (i := 23) (by decide +kernel), List.mem_of_getElem? (i := 355) (by decide +kernel), List.mem_of_getElem? (i := 356) (by decide +kernel)⟩
theorem lw_p17 : lw_okq (⟨"BoundedMachines$Net", "isNode", "(I)Z"⟩, 13) := ⟨⟨by decide +kernel, by decide +kernel⟩, List.mem_of_getElem? (i := 23) (by decide +kernel), List.mem_of_getElem? (i := 362) (by decide +kernel), List.mem_of_getElem? (i := 363) (by decide +kernel)⟩
theorem lw_p18 : lw_okq (⟨"BoundedMachines$Net", "addGate", "(III)I"⟩, 13) := ⟨⟨by decide +kernel, by decide +kernel⟩, List.mem_of_getElem? (i := 23) (by decide +kernel), List.mem_of_getElem? (i := 371) (by decide +kernel), List.mem_of_getElem? (i := 372) (by decide +kernel)⟩
theorem lw_p19 : lw_okq (⟨"BoundedMachines$Net", "isState", "(I)Z"⟩, 13) := ⟨⟨by decide +kernel, by decide +kernel⟩, List.mem_of_getElem? (i := 23) (by decide +kernel), List.mem_of_getElem? (i := 382) (by decide +kernel), List.mem_of_getElem? (i := 383) (by decide +kernel)⟩
theorem lw_p20 : lw_okq (⟨"BoundedMachines$Net", "changeNext", "(II)I"⟩, 13) := ⟨⟨by decide +kernel, by decide +kernel⟩, List.mem_of_getElem? (i := 23) (by decide +kernel), List.mem_of_getElem? (i := 388) (by decide +kernel), List.mem_of_getElem? (i := 389) (by decide +kernel)⟩
theorem lw_p21 : lw_okq (⟨"BoundedMachines$Net", "hasAllPairs", "()Z"⟩, 13) := ⟨⟨by decide +kernel, by decide +kernel⟩, List.mem_of_getElem? (i := 23) (by decide +kernel), List.mem_of_getElem? (i := 400) (by decide +kernel), List.mem_of_getElem? (i := 401) (by decide +kernel)⟩
theorem lw_p22 : lw_okq (⟨"BoundedMachines$Net", "addPair", "(II)V"⟩, 13) := ⟨⟨by decide +kernel, by decide +kernel⟩, List.mem_of_getElem? (i := 23) (by decide +kernel), List.mem_of_getElem? (i := 405) (by decide +kernel), List.mem_of_getElem? (i := 406) (by decide +kernel)⟩
theorem lw_p23 : lw_okq (⟨"BoundedMachines$Hunt", "goOn", "(I)V"⟩, 10) := ⟨⟨by decide +kernel, by decide +kernel⟩, List.mem_of_getElem? (i := 82) (by decide +kernel), List.mem_of_getElem? (i := 417) (by decide +kernel), List.mem_of_getElem? (i := 418) (by decide +kernel)⟩
theorem lw_p24 : lw_okq (⟨"BoundedMachines$Hunt", "start", "()V"⟩, 10) := ⟨⟨by decide +kernel, by decide +kernel⟩, List.mem_of_getElem? (i := 82) (by decide +kernel), List.mem_of_getElem? (i := 421) (by decide +kernel), List.mem_of_getElem? (i := 422) (by decide +kernel)⟩
theorem lw_p25 : lw_okq (⟨"BoundedMachines$Hunt", "keepIfNew", "(III)Z"⟩, 10) := ⟨⟨by decide +kernel, by decide +kernel⟩, List.mem_of_getElem? (i := 82) (by decide +kernel), List.mem_of_getElem? (i := 428) (by decide +kernel), List.mem_of_getElem? (i := 429) (by decide +kernel)⟩
theorem lw_p26 : lw_okq (⟨"BoundedMachines$Hunt", "hasOpenLevel", "()Z"⟩, 10) := ⟨⟨by decide +kernel, by decide +kernel⟩, List.mem_of_getElem? (i := 82) (by decide +kernel), List.mem_of_getElem? (i := 432) (by decide +kernel), List.mem_of_getElem? (i := 433) (by decide +kernel)⟩
theorem lw_p27 : lw_okq (⟨"BoundedMachines$Hunt", "rowsOfLevel", "(I)I"⟩, 10) := ⟨⟨by decide +kernel, by decide +kernel⟩, List.mem_of_getElem? (i := 82) (by decide +kernel), List.mem_of_getElem? (i := 436) (by decide +kernel), List.mem_of_getElem? (i := 437) (by decide +kernel)⟩
theorem lw_p28 : lw_okq (⟨"BoundedMachines$Hunt", "askLevel", "()V"⟩, 10) := ⟨⟨by decide +kernel, by decide +kernel⟩, List.mem_of_getElem? (i := 82) (by decide +kernel), List.mem_of_getElem? (i := 440) (by decide +kernel), List.mem_of_getElem? (i := 441) (by decide +kernel)⟩
theorem lw_p29 : lw_okq (⟨"BoundedMachines$Net", "leastDifferingWord", "([I)I"⟩, 13) := ⟨⟨by decide +kernel, by decide +kernel⟩, List.mem_of_getElem? (i := 23) (by decide +kernel), List.mem_of_getElem? (i := 445) (by decide +kernel), List.mem_of_getElem? (i := 446) (by decide +kernel)⟩
theorem lw_p30 : lw_okq (⟨"BoundedMachines$Hunt", "tellProgram", "(II)V"⟩, 10) := ⟨⟨by decide +kernel, by decide +kernel⟩, List.mem_of_getElem? (i := 82) (by decide +kernel), List.mem_of_getElem? (i := 449) (by decide +kernel), List.mem_of_getElem? (i := 450) (by decide +kernel)⟩
theorem lw_p31 : lw_okq (⟨"BoundedMachines$Hunt", "gather", "(II)I"⟩, 10) := ⟨⟨by decide +kernel, by decide +kernel⟩, List.mem_of_getElem? (i := 82) (by decide +kernel), List.mem_of_getElem? (i := 453) (by decide +kernel), List.mem_of_getElem? (i := 454) (by decide +kernel)⟩
def lw_privs_2 : List (MethodName × Nat) := [(⟨"BoundedMachines$Net", "takesGate", "(III)Z"⟩, 13), (⟨"BoundedMachines$Net", "isNode", "(I)Z"⟩, 13), (⟨"BoundedMachines$Net", "addGate", "(III)I"⟩, 13), (⟨"BoundedMachines$Net", "isState", "(I)Z"⟩, 13), (⟨"BoundedMachines$Net", "changeNext", "(II)I"⟩, 13), (⟨"BoundedMachines$Net", "hasAllPairs", "()Z"⟩, 13), (⟨"BoundedMachines$Net", "addPair", "(II)V"⟩, 13), (⟨"BoundedMachines$Hunt", "goOn", "(I)V"⟩, 10), (⟨"BoundedMachines$Hunt", "start", "()V"⟩, 10), (⟨"BoundedMachines$Hunt", "keepIfNew", "(III)Z"⟩, 10), (⟨"BoundedMachines$Hunt", "hasOpenLevel", "()Z"⟩, 10), (⟨"BoundedMachines$Hunt", "rowsOfLevel", "(I)I"⟩, 10), (⟨"BoundedMachines$Hunt", "askLevel", "()V"⟩, 10), (⟨"BoundedMachines$Net", "leastDifferingWord", "([I)I"⟩, 13), (⟨"BoundedMachines$Hunt", "tellProgram", "(II)V"⟩, 10), (⟨"BoundedMachines$Hunt", "gather", "(II)I"⟩, 10)]
theorem lw_r2 : ∀ q ∈ lw_privs_2, lw_okq q := List.forall_mem_cons.mpr ⟨lw_p16, List.forall_mem_cons.mpr ⟨lw_p17, List.forall_mem_cons.mpr ⟨lw_p18, List.forall_mem_cons.mpr ⟨lw_p19, List.forall_mem_cons.mpr ⟨lw_p20, List.forall_mem_cons.mpr ⟨lw_p21, List.forall_mem_cons.mpr ⟨lw_p22, List.forall_mem_cons.mpr ⟨lw_p23, List.forall_mem_cons.mpr ⟨lw_p24, List.forall_mem_cons.mpr ⟨lw_p25, List.forall_mem_cons.mpr ⟨lw_p26, List.forall_mem_cons.mpr ⟨lw_p27, List.forall_mem_cons.mpr ⟨lw_p28, List.forall_mem_cons.mpr ⟨lw_p29, List.forall_mem_cons.mpr ⟨lw_p30, List.forall_mem_cons.mpr ⟨lw_p31, fun _ h => absurd h List.not_mem_nil⟩⟩⟩⟩⟩⟩⟩⟩⟩⟩⟩⟩⟩⟩⟩⟩
theorem lw_p32 : lw_okq (⟨"BoundedMachines$HandRun", "truthOf", "(I)Z"⟩, 6) := ⟨⟨by decide +kernel, by decide +kernel⟩, List.mem_of_getElem? (i := 122) (by decide +kernel), List.mem_of_getElem? (i := 500) (by decide +kernel), List.mem_of_getElem? (i := 501) (by decide +kernel)⟩
theorem lw_p33 : lw_okq (⟨"BoundedMachinesModel", "forget", "()V"⟩, 31) := ⟨⟨by decide +kernel, by decide +kernel⟩, List.mem_of_getElem? (i := 504) (by decide +kernel), List.mem_of_getElem? (i := 510) (by decide +kernel), List.mem_of_getElem? (i := 511) (by decide +kernel)⟩
theorem lw_p34 : lw_okq (⟨"BoundedMachinesModel", "anew", "()V"⟩, 31) := ⟨⟨by decide +kernel, by decide +kernel⟩, List.mem_of_getElem? (i := 504) (by decide +kernel), List.mem_of_getElem? (i := 514) (by decide +kernel), List.mem_of_getElem? (i := 515) (by decide +kernel)⟩
theorem lw_p35 : lw_okq (⟨"BoundedMachinesModel", "beginning", "()I"⟩, 31) := ⟨⟨by decide +kernel, by decide +kernel⟩, List.mem_of_getElem? (i := 504) (by decide +kernel), List.mem_of_getElem? (i := 518) (by decide +kernel), List.mem_of_getElem? (i := 519) (by decide +kernel)⟩
theorem lw_p36 : lw_okq (⟨"BoundedMachinesModel", "throwing", "(ZZ)Z"⟩, 31) := ⟨⟨by decide +kernel, by decide +kernel⟩, List.mem_of_getElem? (i := 504) (by decide +kernel), List.mem_of_getElem? (i := 628) (by decide +kernel), List.mem_of_getElem? (i := 629) (by decide +kernel)⟩
theorem lw_p37 : lw_okq (⟨"BoundedMachinesModel", "come", "(III)V"⟩, 31) := ⟨⟨by decide +kernel, by decide +kernel⟩, List.mem_of_getElem? (i := 504) (by decide +kernel), List.mem_of_getElem? (i := 648) (by decide +kernel), List.mem_of_getElem? (i := 649) (by decide +kernel)⟩
theorem lw_p38 : lw_okq (⟨"BoundedMachinesModel", "isFound", "()Z"⟩, 31) := ⟨⟨by decide +kernel, by decide +kernel⟩, List.mem_of_getElem? (i := 504) (by decide +kernel), List.mem_of_getElem? (i := 652) (by decide +kernel), List.mem_of_getElem? (i := 653) (by decide +kernel)⟩
theorem lw_p39 : lw_okq (⟨"BoundedMachinesModel", "work", "(II)V"⟩, 31) := ⟨⟨by decide +kernel, by decide +kernel⟩, List.mem_of_getElem? (i := 504) (by decide +kernel), List.mem_of_getElem? (i := 656) (by decide +kernel), List.mem_of_getElem? (i := 657) (by decide +kernel)⟩
theorem lw_p40 : lw_okq (⟨"BoundedMachinesModel", "made", "(I)Z"⟩, 31) := ⟨⟨by decide +kernel, by decide +kernel⟩, List.mem_of_getElem? (i := 504) (by decide +kernel), List.mem_of_getElem? (i := 660) (by decide +kernel), List.mem_of_getElem? (i := 661) (by decide +kernel)⟩
theorem lw_p41 : lw_okq (⟨"BoundedMachinesModel", "difference", "()I"⟩, 31) := ⟨⟨by decide +kernel, by decide +kernel⟩, List.mem_of_getElem? (i := 504) (by decide +kernel), List.mem_of_getElem? (i := 664) (by decide +kernel), List.mem_of_getElem? (i := 665) (by decide +kernel)⟩
theorem lw_p42 : lw_okq (⟨"BoundedMachinesModel", "goThrough", "()V"⟩, 31) := ⟨⟨by decide +kernel, by decide +kernel⟩, List.mem_of_getElem? (i := 504) (by decide +kernel), List.mem_of_getElem? (i := 668) (by decide +kernel), List.mem_of_getElem? (i := 669) (by decide +kernel)⟩
theorem lw_p43 : lw_okq (⟨"BoundedMachinesModel", "after", "()I"⟩, 31) := ⟨⟨by decide +kernel, by decide +kernel⟩, List.mem_of_getElem? (i := 504) (by decide +kernel), List.mem_of_getElem? (i := 672) (by decide +kernel), List.mem_of_getElem? (i := 673) (by decide +kernel)⟩
def lw_privs_3 : List (MethodName × Nat) := [(⟨"BoundedMachines$HandRun", "truthOf", "(I)Z"⟩, 6), (⟨"BoundedMachinesModel", "forget", "()V"⟩, 31), (⟨"BoundedMachinesModel", "anew", "()V"⟩, 31), (⟨"BoundedMachinesModel", "beginning", "()I"⟩, 31), (⟨"BoundedMachinesModel", "throwing", "(ZZ)Z"⟩, 31), (⟨"BoundedMachinesModel", "come", "(III)V"⟩, 31), (⟨"BoundedMachinesModel", "isFound", "()Z"⟩, 31), (⟨"BoundedMachinesModel", "work", "(II)V"⟩, 31), (⟨"BoundedMachinesModel", "made", "(I)Z"⟩, 31), (⟨"BoundedMachinesModel", "difference", "()I"⟩, 31), (⟨"BoundedMachinesModel", "goThrough", "()V"⟩, 31), (⟨"BoundedMachinesModel", "after", "()I"⟩, 31)]
theorem lw_r3 : ∀ q ∈ lw_privs_3, lw_okq q := List.forall_mem_cons.mpr ⟨lw_p32, List.forall_mem_cons.mpr ⟨lw_p33, List.forall_mem_cons.mpr ⟨lw_p34, List.forall_mem_cons.mpr ⟨lw_p35, List.forall_mem_cons.mpr ⟨lw_p36, List.forall_mem_cons.mpr ⟨lw_p37, List.forall_mem_cons.mpr ⟨lw_p38, List.forall_mem_cons.mpr ⟨lw_p39, List.forall_mem_cons.mpr ⟨lw_p40, List.forall_mem_cons.mpr ⟨lw_p41, List.forall_mem_cons.mpr ⟨lw_p42, List.forall_mem_cons.mpr ⟨lw_p43, fun _ h => absurd h List.not_mem_nil⟩⟩⟩⟩⟩⟩⟩⟩⟩⟩⟩⟩
def lw_privs : List (MethodName × Nat) := lw_privs_1 ++ (lw_privs_2 ++ (lw_privs_3))
def lw_tbl : List Cond := k2_sels lw_privs ++ tables_1
theorem lw_privs_ok : ∀ q ∈ lw_privs, lw_okq q := by
  show ∀ q ∈ lw_privs_1 ++ (lw_privs_2 ++ (lw_privs_3)), lw_okq q
  exact List.forall_mem_append.mpr ⟨lw_r1, List.forall_mem_append.mpr ⟨lw_r2, lw_r3⟩⟩
end
section
-- ===== names: classes, fields, methods =====
def RX0 : String := "BoundedMachines$HandRun"
def TX0 : u_T := fun k => match k with
  | 0 => ("BoundedMachines$HandRun", "net", "LBoundedMachines$Net;", true)
  | 1 => ("BoundedMachines$HandRun", "lanes", "[I", true)
  | 2 => ("BoundedMachines$HandRun", "row", "I", false)
  | 3 => ("BoundedMachines$HandRun", "lane", "I", false)
  | 4 => ("BoundedMachines$HandRun", "cycles", "I", false)
  | _ => ("BoundedMachines$HandRun", "firstPair", "I", false)
def tyX0 : Nat → FieldType := fun k => match k with
  | 0 => (.object "BoundedMachines$Net")
  | 1 => .array .int
  | 2 => .int
  | 3 => .int
  | 4 => .int
  | _ => .int
abbrev wsX00 : List Cond := u_ws RX0 TX0 6
theorem nmX0 : ∀ a, a < 6 → ∀ b, b < 6 → a ≠ b → (TX0 a).2.1 ≠ (TX0 b).2.1 := by decide +kernel
theorem tyX0_ok : ∀ k, k < 6 → parseFieldDescriptor (TX0 k).2.2.1 = some (tyX0 k) := by decide +kernel
def RX1 : String := "BoundedMachines$Hunt"
def TX1 : u_T := fun k => match k with
  | 0 => ("BoundedMachines$Hunt", "net", "LBoundedMachines$Net;", true)
  | 1 => ("BoundedMachines$Hunt", "lanes", "[I", true)
  | 2 => ("BoundedMachines$Hunt", "rows", "[I", true)
  | 3 => ("BoundedMachines$Hunt", "origins", "[I", true)
  | 4 => ("BoundedMachines$Hunt", "levelStarts", "[I", true)
  | 5 => ("BoundedMachines$Hunt", "program", "[I", true)
  | 6 => ("BoundedMachines$Hunt", "known", "[I", true)
  | 7 => ("BoundedMachines$Hunt", "rowCount", "I", false)
  | 8 => ("BoundedMachines$Hunt", "clearLevels", "I", false)
  | _ => ("BoundedMachines$Hunt", "programLength", "I", false)
def tyX1 : Nat → FieldType := fun k => match k with
  | 0 => (.object "BoundedMachines$Net")
  | 1 => .array .int
  | 2 => .array .int
  | 3 => .array .int
  | 4 => .array .int
  | 5 => .array .int
  | 6 => .array .int
  | 7 => .int
  | 8 => .int
  | _ => .int
abbrev wsX10 : List Cond := u_ws RX1 TX1 10
theorem nmX1 : ∀ a, a < 10 → ∀ b, b < 10 → a ≠ b → (TX1 a).2.1 ≠ (TX1 b).2.1 := by decide +kernel
theorem tyX1_ok : ∀ k, k < 10 → parseFieldDescriptor (TX1 k).2.2.1 = some (tyX1 k) := by decide +kernel
def RX2 : String := "BoundedMachines$Net"
def TX2 : u_T := fun k => match k with
  | 0 => ("BoundedMachines$Net", "wordBits", "I", true)
  | 1 => ("BoundedMachines$Net", "wordCount", "I", true)
  | 2 => ("BoundedMachines$Net", "kinds", "[I", true)
  | 3 => ("BoundedMachines$Net", "lefts", "[I", true)
  | 4 => ("BoundedMachines$Net", "rights", "[I", true)
  | 5 => ("BoundedMachines$Net", "nexts", "[I", true)
  | 6 => ("BoundedMachines$Net", "pairLefts", "[I", true)
  | 7 => ("BoundedMachines$Net", "pairRights", "[I", true)
  | 8 => ("BoundedMachines$Net", "nodeCount", "I", false)
  | 9 => ("BoundedMachines$Net", "stateCount", "I", false)
  | 10 => ("BoundedMachines$Net", "statesOfSideOne", "I", false)
  | 11 => ("BoundedMachines$Net", "pairCount", "I", false)
  | _ => ("BoundedMachines$Net", "firstRow", "I", false)
def tyX2 : Nat → FieldType := fun k => match k with
  | 0 => .int
  | 1 => .int
  | 2 => .array .int
  | 3 => .array .int
  | 4 => .array .int
  | 5 => .array .int
  | 6 => .array .int
  | 7 => .array .int
  | 8 => .int
  | 9 => .int
  | 10 => .int
  | 11 => .int
  | _ => .int
abbrev wsX20 : List Cond := u_ws RX2 TX2 13
theorem nmX2 : ∀ a, a < 13 → ∀ b, b < 13 → a ≠ b → (TX2 a).2.1 ≠ (TX2 b).2.1 := by decide +kernel
theorem tyX2_ok : ∀ k, k < 13 → parseFieldDescriptor (TX2 k).2.2.1 = some (tyX2 k) := by decide +kernel
def RX3 : String := "BoundedMachines"
def TX3 : u_T := fun k => match k with
  | 0 => ("BoundedMachines", "net", "LBoundedMachines$Net;", true)
  | 1 => ("BoundedMachines", "hunt", "LBoundedMachines$Hunt;", true)
  | _ => ("BoundedMachines", "hand", "LBoundedMachines$HandRun;", true)
def tyX3 : Nat → FieldType := fun k => match k with
  | 0 => (.object "BoundedMachines$Net")
  | 1 => (.object "BoundedMachines$Hunt")
  | _ => (.object "BoundedMachines$HandRun")
abbrev wsX30 : List Cond := u_ws RX3 TX3 3
theorem nmX3 : ∀ a, a < 3 → ∀ b, b < 3 → a ≠ b → (TX3 a).2.1 ≠ (TX3 b).2.1 := by decide +kernel
theorem tyX3_ok : ∀ k, k < 3 → parseFieldDescriptor (TX3 k).2.2.1 = some (tyX3 k) := by decide +kernel
def RX4 : String := "BoundedMachinesModel"
def TX4 : u_T := fun k => match k with
  | 0 => ("BoundedMachinesModel", "thrown", "I", false)
  | 1 => ("BoundedMachinesModel", "bits", "I", true)
  | 2 => ("BoundedMachinesModel", "nodes", "I", false)
  | 3 => ("BoundedMachinesModel", "states", "I", false)
  | 4 => ("BoundedMachinesModel", "pairs", "I", false)
  | 5 => ("BoundedMachinesModel", "gates", "I", false)
  | 6 => ("BoundedMachinesModel", "sides", "[I", true)
  | 7 => ("BoundedMachinesModel", "op", "[I", true)
  | 8 => ("BoundedMachinesModel", "left", "[I", true)
  | 9 => ("BoundedMachinesModel", "right", "[I", true)
  | 10 => ("BoundedMachinesModel", "stateOf", "[I", true)
  | 11 => ("BoundedMachinesModel", "nodeOf", "[I", true)
  | 12 => ("BoundedMachinesModel", "nextOf", "[I", true)
  | 13 => ("BoundedMachinesModel", "firstOf", "[Z", true)
  | 14 => ("BoundedMachinesModel", "pairA", "[I", true)
  | 15 => ("BoundedMachinesModel", "pairB", "[I", true)
  | 16 => ("BoundedMachinesModel", "truth", "[Z", true)
  | 17 => ("BoundedMachinesModel", "rows", "I", false)
  | 18 => ("BoundedMachinesModel", "clear", "I", false)
  | 19 => ("BoundedMachinesModel", "isOver", "Z", false)
  | 20 => ("BoundedMachinesModel", "row", "[I", true)
  | 21 => ("BoundedMachinesModel", "parent", "[I", true)
  | 22 => ("BoundedMachinesModel", "byWord", "[I", true)
  | 23 => ("BoundedMachinesModel", "levelBegin", "[I", true)
  | 24 => ("BoundedMachinesModel", "came", "[Z", true)
  | 25 => ("BoundedMachinesModel", "program", "[I", true)
  | 26 => ("BoundedMachinesModel", "programSize", "I", false)
  | 27 => ("BoundedMachinesModel", "cycles", "I", false)
  | 28 => ("BoundedMachinesModel", "differs", "I", false)
  | 29 => ("BoundedMachinesModel", "handRow", "I", false)
  | _ => ("BoundedMachinesModel", "shown", "[Z", true)
def tyX4 : Nat → FieldType := fun k => match k with
  | 0 => .int
  | 1 => .int
  | 2 => .int
  | 3 => .int
  | 4 => .int
  | 5 => .int
  | 6 => .array .int
  | 7 => .array .int
  | 8 => .array .int
  | 9 => .array .int
  | 10 => .array .int
  | 11 => .array .int
  | 12 => .array .int
  | 13 => .array .boolean
  | 14 => .array .int
  | 15 => .array .int
  | 16 => .array .boolean
  | 17 => .int
  | 18 => .int
  | 19 => .boolean
  | 20 => .array .int
  | 21 => .array .int
  | 22 => .array .int
  | 23 => .array .int
  | 24 => .array .boolean
  | 25 => .array .int
  | 26 => .int
  | 27 => .int
  | 28 => .int
  | 29 => .int
  | _ => .array .boolean
abbrev wsX40 : List Cond := u_ws RX4 TX4 31
theorem nmX4 : ∀ a, a < 31 → ∀ b, b < 31 → a ≠ b → (TX4 a).2.1 ≠ (TX4 b).2.1 := by decide +kernel
theorem tyX4_ok : ∀ k, k < 31 → parseFieldDescriptor (TX4 k).2.2.1 = some (tyX4 k) := by decide +kernel
def RL : String := "BoundedMachinesLaw"
def RJm : String := "java/lang/Math"
def RJa : String := "java/util/Arrays"
abbrev vwCl : List vw_C := [(RX0, TX0, 6), (RX1, TX1, 10), (RX2, TX2, 13), (RX3, TX3, 3), (RX4, TX4, 31)]
abbrev b_BM_init : ByteArray := prog_1_method_1_code
def y_BM_init : MethodName := ⟨RX3, "<init>", "(I)V"⟩
abbrev b_Math_floorMod : ByteArray := prog_10_method_50_code
def y_Math_floorMod : MethodName := ⟨RJm, "floorMod", "(II)I"⟩
abbrev b_Net_init : ByteArray := prog_4_method_1_code
def y_Net_init : MethodName := ⟨RX2, "<init>", "(I)V"⟩
abbrev b_Hunt_init : ByteArray := prog_3_method_1_code
def y_Hunt_init : MethodName := ⟨RX1, "<init>", "(LBoundedMachines$Net;)V"⟩
abbrev b_Hand_init : ByteArray := prog_2_method_1_code
def y_Hand_init : MethodName := ⟨RX0, "<init>", "(LBoundedMachines$Net;)V"⟩
abbrev b_BM_length : ByteArray := prog_1_method_7_code
def y_BM_length : MethodName := ⟨RX3, "length", "()I"⟩
abbrev b_BM_clear : ByteArray := prog_1_method_9_code
def y_BM_clear : MethodName := ⟨RX3, "clear", "()I"⟩
abbrev b_BM_seen : ByteArray := prog_1_method_10_code
def y_BM_seen : MethodName := ⟨RX3, "seen", "()I"⟩
abbrev b_BM_begin : ByteArray := prog_1_method_12_code
def y_BM_begin : MethodName := ⟨RX3, "begin", "()V"⟩
abbrev b_Hand_restart : ByteArray := prog_2_method_2_code
def y_Hand_restart : MethodName := ⟨RX0, "restart", "()V"⟩
abbrev b_Net_layAsAtFirst : ByteArray := prog_4_method_17_code
def y_Net_layAsAtFirst : MethodName := ⟨RX2, "layAsAtFirst", "([I)V"⟩
abbrev b_Net_lanesOfState : ByteArray := prog_4_method_16_code
def y_Net_lanesOfState : MethodName := ⟨RX2, "lanesOfState", "(II)I"⟩
abbrev b_BM_cycle : ByteArray := prog_1_method_13_code
def y_BM_cycle : MethodName := ⟨RX3, "cycle", "(I)Z"⟩
abbrev b_Hand_step : ByteArray := prog_2_method_3_code
def y_Hand_step : MethodName := ⟨RX0, "step", "(I)Z"⟩
abbrev b_Net_settle : ByteArray := prog_4_method_18_code
def y_Net_settle : MethodName := ⟨RX2, "settle", "(I[I)V"⟩
abbrev b_Net_lanesOf : ByteArray := prog_4_method_19_code
def y_Net_lanesOf : MethodName := ⟨RX2, "lanesOf", "(II[I)I"⟩
abbrev b_Net_firstDifferingPair : ByteArray := prog_4_method_22_code
def y_Net_firstDifferingPair : MethodName := ⟨RX2, "firstDifferingPair", "(I[I)I"⟩
abbrev b_Net_rowAfter : ByteArray := prog_4_method_20_code
def y_Net_rowAfter : MethodName := ⟨RX2, "rowAfter", "(I[I)I"⟩
abbrev b_BM_replay : ByteArray := prog_1_method_15_code
def y_BM_replay : MethodName := ⟨RX3, "replay", "()I"⟩
abbrev b_Hunt_programWord : ByteArray := prog_3_method_11_code
def y_Hunt_programWord : MethodName := ⟨RX1, "programWord", "(I)I"⟩
abbrev b_BM_count : ByteArray := prog_1_method_16_code
def y_BM_count : MethodName := ⟨RX3, "count", "(I)I"⟩
abbrev b_Net_gateCount : ByteArray := prog_4_method_7_code
def y_Net_gateCount : MethodName := ⟨RX2, "gateCount", "()I"⟩
abbrev b_Law_cell : ByteArray := method_2_code
def y_Law_cell : MethodName := ⟨RL, "cell", "([II)I"⟩
abbrev b_Law_state : ByteArray := method_3_code
def y_Law_state : MethodName := ⟨RL, "state", "(LBoundedMachines;IZ[J)I"⟩
abbrev b_BM_state : ByteArray := prog_1_method_2_code
def y_BM_state : MethodName := ⟨RX3, "state", "(IZ)I"⟩
abbrev b_Net_hasAllStates : ByteArray := prog_4_method_3_code
def y_Net_hasAllStates : MethodName := ⟨RX2, "hasAllStates", "()Z"⟩
abbrev b_Net_hasAllNodes : ByteArray := prog_4_method_2_code
def y_Net_hasAllNodes : MethodName := ⟨RX2, "hasAllNodes", "()Z"⟩
abbrev b_Net_addState : ByteArray := prog_4_method_11_code
def y_Net_addState : MethodName := ⟨RX2, "addState", "(IZ)I"⟩
abbrev b_Net_addNode : ByteArray := prog_4_method_13_code
def y_Net_addNode : MethodName := ⟨RX2, "addNode", "(III)I"⟩
abbrev b_BM_startAnew : ByteArray := prog_1_method_17_code
def y_BM_startAnew : MethodName := ⟨RX3, "startAnew", "()V"⟩
abbrev b_Hunt_forget : ByteArray := prog_3_method_2_code
def y_Hunt_forget : MethodName := ⟨RX1, "forget", "()V"⟩
abbrev b_Law_gate : ByteArray := method_4_code
def y_Law_gate : MethodName := ⟨RL, "gate", "(LBoundedMachines;III[J)I"⟩
abbrev b_BM_gate : ByteArray := prog_1_method_3_code
def y_BM_gate : MethodName := ⟨RX3, "gate", "(III)I"⟩
abbrev b_Net_takesGate : ByteArray := prog_4_method_10_code
def y_Net_takesGate : MethodName := ⟨RX2, "takesGate", "(III)Z"⟩
abbrev b_Net_wantsLeft : ByteArray := prog_4_method_8_code
def y_Net_wantsLeft : MethodName := ⟨RX2, "wantsLeft", "(I)Z"⟩
abbrev b_Net_isNode : ByteArray := prog_4_method_5_code
def y_Net_isNode : MethodName := ⟨RX2, "isNode", "(I)Z"⟩
abbrev b_Net_wantsRight : ByteArray := prog_4_method_9_code
def y_Net_wantsRight : MethodName := ⟨RX2, "wantsRight", "(I)Z"⟩
abbrev b_Net_addGate : ByteArray := prog_4_method_12_code
def y_Net_addGate : MethodName := ⟨RX2, "addGate", "(III)I"⟩
abbrev b_Law_next : ByteArray := method_5_code
def y_Law_next : MethodName := ⟨RL, "next", "(LBoundedMachines;II[J)I"⟩
abbrev b_BM_next : ByteArray := prog_1_method_4_code
def y_BM_next : MethodName := ⟨RX3, "next", "(II)I"⟩
abbrev b_Net_isState : ByteArray := prog_4_method_6_code
def y_Net_isState : MethodName := ⟨RX2, "isState", "(I)Z"⟩
abbrev b_Net_changeNext : ByteArray := prog_4_method_15_code
def y_Net_changeNext : MethodName := ⟨RX2, "changeNext", "(II)I"⟩
abbrev b_Law_compare : ByteArray := method_6_code
def y_Law_compare : MethodName := ⟨RL, "compare", "(LBoundedMachines;II[J)I"⟩
abbrev b_BM_compare : ByteArray := prog_1_method_5_code
def y_BM_compare : MethodName := ⟨RX3, "compare", "(II)I"⟩
abbrev b_Net_hasAllPairs : ByteArray := prog_4_method_4_code
def y_Net_hasAllPairs : MethodName := ⟨RX2, "hasAllPairs", "()Z"⟩
abbrev b_Net_addPair : ByteArray := prog_4_method_14_code
def y_Net_addPair : MethodName := ⟨RX2, "addPair", "(II)V"⟩
abbrev b_Law_search : ByteArray := method_7_code
def y_Law_search : MethodName := ⟨RL, "search", "(LBoundedMachines;I[J)I"⟩
abbrev b_BM_search : ByteArray := prog_1_method_6_code
def y_BM_search : MethodName := ⟨RX3, "search", "(I)I"⟩
abbrev b_Hunt_goOn : ByteArray := prog_3_method_3_code
def y_Hunt_goOn : MethodName := ⟨RX1, "goOn", "(I)V"⟩
abbrev b_Hunt_start : ByteArray := prog_3_method_4_code
def y_Hunt_start : MethodName := ⟨RX1, "start", "()V"⟩
abbrev b_Arrs_fill : ByteArray := prog_15_method_103_code
def y_Arrs_fill : MethodName := ⟨RJa, "fill", "([II)V"⟩
abbrev b_Hunt_keepIfNew : ByteArray := prog_3_method_9_code
def y_Hunt_keepIfNew : MethodName := ⟨RX1, "keepIfNew", "(III)Z"⟩
abbrev b_Hunt_hasOpenLevel : ByteArray := prog_3_method_5_code
def y_Hunt_hasOpenLevel : MethodName := ⟨RX1, "hasOpenLevel", "()Z"⟩
abbrev b_Hunt_rowsOfLevel : ByteArray := prog_3_method_6_code
def y_Hunt_rowsOfLevel : MethodName := ⟨RX1, "rowsOfLevel", "(I)I"⟩
abbrev b_Hunt_askLevel : ByteArray := prog_3_method_7_code
def y_Hunt_askLevel : MethodName := ⟨RX1, "askLevel", "()V"⟩
abbrev b_Net_leastDifferingWord : ByteArray := prog_4_method_21_code
def y_Net_leastDifferingWord : MethodName := ⟨RX2, "leastDifferingWord", "([I)I"⟩
abbrev b_Hunt_tellProgram : ByteArray := prog_3_method_10_code
def y_Hunt_tellProgram : MethodName := ⟨RX1, "tellProgram", "(II)V"⟩
abbrev b_Hunt_gather : ByteArray := prog_3_method_8_code
def y_Hunt_gather : MethodName := ⟨RX1, "gather", "(II)I"⟩
abbrev b_Law_word : ByteArray := method_8_code
def y_Law_word : MethodName := ⟨RL, "word", "(LBoundedMachines;I[J)I"⟩
abbrev b_BM_word : ByteArray := prog_1_method_8_code
def y_BM_word : MethodName := ⟨RX3, "word", "(I)I"⟩
abbrev b_Law_level : ByteArray := method_9_code
def y_Law_level : MethodName := ⟨RL, "level", "(LBoundedMachines;I[J)I"⟩
abbrev b_BM_level : ByteArray := prog_1_method_11_code
def y_BM_level : MethodName := ⟨RX3, "level", "(I)I"⟩
abbrev b_Law_truth : ByteArray := method_10_code
def y_Law_truth : MethodName := ⟨RL, "truth", "(LBoundedMachines;I[J)I"⟩
abbrev b_BM_truth : ByteArray := prog_1_method_14_code
def y_BM_truth : MethodName := ⟨RX3, "truth", "(I)Z"⟩
abbrev b_Hand_truthOf : ByteArray := prog_2_method_4_code
def y_Hand_truthOf : MethodName := ⟨RX0, "truthOf", "(I)Z"⟩
abbrev b_Mod_init : ByteArray := prog_6_method_1_code
def y_Mod_init : MethodName := ⟨RX4, "<init>", "(I)V"⟩
abbrev b_Mod_forget : ByteArray := prog_6_method_5_code
def y_Mod_forget : MethodName := ⟨RX4, "forget", "()V"⟩
abbrev b_Mod_anew : ByteArray := prog_6_method_7_code
def y_Mod_anew : MethodName := ⟨RX4, "anew", "()V"⟩
abbrev b_Mod_beginning : ByteArray := prog_6_method_6_code
def y_Mod_beginning : MethodName := ⟨RX4, "beginning", "()I"⟩
abbrev b_Mod_thrown : ByteArray := prog_6_method_2_code
def y_Mod_thrown : MethodName := ⟨RX4, "thrown", "()I"⟩
abbrev b_Mod_state : ByteArray := prog_6_method_8_code
def y_Mod_state : MethodName := ⟨RX4, "state", "(IZ)I"⟩
abbrev b_Mod_isOf : ByteArray := prog_6_method_4_code
def y_Mod_isOf : MethodName := ⟨RX4, "isOf", "(II)Z"⟩
abbrev b_Mod_throwing : ByteArray := prog_6_method_3_code
def y_Mod_throwing : MethodName := ⟨RX4, "throwing", "(ZZ)Z"⟩
abbrev b_Mod_gate : ByteArray := prog_6_method_9_code
def y_Mod_gate : MethodName := ⟨RX4, "gate", "(III)I"⟩
abbrev b_Mod_next : ByteArray := prog_6_method_10_code
def y_Mod_next : MethodName := ⟨RX4, "next", "(II)I"⟩
abbrev b_Mod_compare : ByteArray := prog_6_method_11_code
def y_Mod_compare : MethodName := ⟨RX4, "compare", "(II)I"⟩
abbrev b_Mod_search : ByteArray := prog_6_method_19_code
def y_Mod_search : MethodName := ⟨RX4, "search", "(I)I"⟩
abbrev b_Mod_come : ByteArray := prog_6_method_16_code
def y_Mod_come : MethodName := ⟨RX4, "come", "(III)V"⟩
abbrev b_Mod_isFound : ByteArray := prog_6_method_17_code
def y_Mod_isFound : MethodName := ⟨RX4, "isFound", "()Z"⟩
abbrev b_Mod_work : ByteArray := prog_6_method_13_code
def y_Mod_work : MethodName := ⟨RX4, "work", "(II)V"⟩
abbrev b_Mod_made : ByteArray := prog_6_method_12_code
def y_Mod_made : MethodName := ⟨RX4, "made", "(I)Z"⟩
abbrev b_Mod_difference : ByteArray := prog_6_method_14_code
def y_Mod_difference : MethodName := ⟨RX4, "difference", "()I"⟩
abbrev b_Mod_goThrough : ByteArray := prog_6_method_18_code
def y_Mod_goThrough : MethodName := ⟨RX4, "goThrough", "()V"⟩
abbrev b_Mod_after : ByteArray := prog_6_method_15_code
def y_Mod_after : MethodName := ⟨RX4, "after", "()I"⟩
abbrev b_Mod_length : ByteArray := prog_6_method_20_code
def y_Mod_length : MethodName := ⟨RX4, "length", "()I"⟩
abbrev b_Mod_word : ByteArray := prog_6_method_21_code
def y_Mod_word : MethodName := ⟨RX4, "word", "(I)I"⟩
abbrev b_Mod_clear : ByteArray := prog_6_method_22_code
def y_Mod_clear : MethodName := ⟨RX4, "clear", "()I"⟩
abbrev b_Mod_seen : ByteArray := prog_6_method_23_code
def y_Mod_seen : MethodName := ⟨RX4, "seen", "()I"⟩
abbrev b_Mod_level : ByteArray := prog_6_method_24_code
def y_Mod_level : MethodName := ⟨RX4, "level", "(I)I"⟩
abbrev b_Mod_begin : ByteArray := prog_6_method_25_code
def y_Mod_begin : MethodName := ⟨RX4, "begin", "()V"⟩
abbrev b_Mod_cycle : ByteArray := prog_6_method_26_code
def y_Mod_cycle : MethodName := ⟨RX4, "cycle", "(I)Z"⟩
abbrev b_Mod_truth : ByteArray := prog_6_method_27_code
def y_Mod_truth : MethodName := ⟨RX4, "truth", "(I)Z"⟩
abbrev b_Mod_replay : ByteArray := prog_6_method_28_code
def y_Mod_replay : MethodName := ⟨RX4, "replay", "()I"⟩
abbrev b_Mod_count : ByteArray := prog_6_method_29_code
def y_Mod_count : MethodName := ⟨RX4, "count", "(I)I"⟩
end
section
-- ===== decode rows =====
theorem d_Net_init_0 : decode b_Net_init 0 = .ok (.aload_n 0, 1) := by decide +kernel
theorem d_Net_init_1 : decode b_Net_init 1 = .ok (.invokespecial 3, 3) := by decide +kernel
theorem d_Net_init_4 : decode b_Net_init 4 = .ok (.aload_n 0, 1) := by decide +kernel
theorem d_Net_init_5 : decode b_Net_init 5 = .ok (.bipush 100, 2) := by decide +kernel
theorem d_Net_init_7 : decode b_Net_init 7 = .ok (.newarray .int, 2) := by decide +kernel
theorem d_Net_init_9 : decode b_Net_init 9 = .ok (.putfield 11, 3) := by decide +kernel
theorem d_Net_init_12 : decode b_Net_init 12 = .ok (.aload_n 0, 1) := by decide +kernel
theorem d_Net_init_13 : decode b_Net_init 13 = .ok (.bipush 100, 2) := by decide +kernel
theorem d_Net_init_15 : decode b_Net_init 15 = .ok (.newarray .int, 2) := by decide +kernel
theorem d_Net_init_17 : decode b_Net_init 17 = .ok (.putfield 15, 3) := by decide +kernel
theorem d_Net_init_20 : decode b_Net_init 20 = .ok (.aload_n 0, 1) := by decide +kernel
theorem d_Net_init_21 : decode b_Net_init 21 = .ok (.bipush 100, 2) := by decide +kernel
theorem d_Net_init_23 : decode b_Net_init 23 = .ok (.newarray .int, 2) := by decide +kernel
theorem d_Net_init_25 : decode b_Net_init 25 = .ok (.putfield 18, 3) := by decide +kernel
theorem d_Net_init_28 : decode b_Net_init 28 = .ok (.aload_n 0, 1) := by decide +kernel
theorem d_Net_init_29 : decode b_Net_init 29 = .ok (.bipush 14, 2) := by decide +kernel
theorem d_Net_init_31 : decode b_Net_init 31 = .ok (.newarray .int, 2) := by decide +kernel
theorem d_Net_init_33 : decode b_Net_init 33 = .ok (.putfield 21, 3) := by decide +kernel
theorem d_Net_init_36 : decode b_Net_init 36 = .ok (.aload_n 0, 1) := by decide +kernel
theorem d_Net_init_37 : decode b_Net_init 37 = .ok (.bipush 16, 2) := by decide +kernel
theorem d_Net_init_39 : decode b_Net_init 39 = .ok (.newarray .int, 2) := by decide +kernel
theorem d_Net_init_41 : decode b_Net_init 41 = .ok (.putfield 24, 3) := by decide +kernel
theorem d_Net_init_44 : decode b_Net_init 44 = .ok (.aload_n 0, 1) := by decide +kernel
theorem d_Net_init_45 : decode b_Net_init 45 = .ok (.bipush 16, 2) := by decide +kernel
theorem d_Net_init_47 : decode b_Net_init 47 = .ok (.newarray .int, 2) := by decide +kernel
theorem d_Net_init_49 : decode b_Net_init 49 = .ok (.putfield 27, 3) := by decide +kernel
theorem d_Net_init_52 : decode b_Net_init 52 = .ok (.aload_n 0, 1) := by decide +kernel
theorem d_Net_init_53 : decode b_Net_init 53 = .ok (.iload_n 1, 1) := by decide +kernel
theorem d_Net_init_54 : decode b_Net_init 54 = .ok (.putfield 30, 3) := by decide +kernel
theorem d_Net_init_57 : decode b_Net_init 57 = .ok (.aload_n 0, 1) := by decide +kernel
theorem d_Net_init_58 : decode b_Net_init 58 = .ok (.iconst 1, 1) := by decide +kernel
theorem d_Net_init_59 : decode b_Net_init 59 = .ok (.iload_n 1, 1) := by decide +kernel
theorem d_Net_init_60 : decode b_Net_init 60 = .ok (.ishl, 1) := by decide +kernel
theorem d_Net_init_61 : decode b_Net_init 61 = .ok (.putfield 34, 3) := by decide +kernel
theorem d_Net_init_64 : decode b_Net_init 64 = .ok (.aload_n 0, 1) := by decide +kernel
theorem d_Net_init_65 : decode b_Net_init 65 = .ok (.iload_n 1, 1) := by decide +kernel
theorem d_Net_init_66 : decode b_Net_init 66 = .ok (.putfield 37, 3) := by decide +kernel
theorem d_Net_init_69 : decode b_Net_init 69 = .ok (.iconst 0, 1) := by decide +kernel
theorem d_Net_init_70 : decode b_Net_init 70 = .ok (.istore_n 2, 1) := by decide +kernel
theorem d_Net_init_71 : decode b_Net_init 71 = .ok (.iload_n 2, 1) := by decide +kernel
theorem d_Net_init_72 : decode b_Net_init 72 = .ok (.iload_n 1, 1) := by decide +kernel
theorem d_Net_init_73 : decode b_Net_init 73 = .ok (.if_icmp .ge 24, 3) := by decide +kernel
theorem d_Net_init_76 : decode b_Net_init 76 = .ok (.aload_n 0, 1) := by decide +kernel
theorem d_Net_init_77 : decode b_Net_init 77 = .ok (.getfield 11, 3) := by decide +kernel
theorem d_Net_init_80 : decode b_Net_init 80 = .ok (.iload_n 2, 1) := by decide +kernel
theorem d_Net_init_81 : decode b_Net_init 81 = .ok (.bipush 6, 2) := by decide +kernel
theorem d_Net_init_83 : decode b_Net_init 83 = .ok (.iastore, 1) := by decide +kernel
theorem d_Net_init_84 : decode b_Net_init 84 = .ok (.aload_n 0, 1) := by decide +kernel
theorem d_Net_init_85 : decode b_Net_init 85 = .ok (.getfield 15, 3) := by decide +kernel
theorem d_Net_init_88 : decode b_Net_init 88 = .ok (.iload_n 2, 1) := by decide +kernel
theorem d_Net_init_89 : decode b_Net_init 89 = .ok (.iload_n 2, 1) := by decide +kernel
theorem d_Net_init_90 : decode b_Net_init 90 = .ok (.iastore, 1) := by decide +kernel
theorem d_Net_init_91 : decode b_Net_init 91 = .ok (.iinc 2 1, 3) := by decide +kernel
theorem d_Net_init_94 : decode b_Net_init 94 = .ok (.goto (-23), 3) := by decide +kernel
theorem d_Net_init_97 : decode b_Net_init 97 = .ok (.return_, 1) := by decide +kernel
theorem d_Hand_init_0 : decode b_Hand_init 0 = .ok (.aload_n 0, 1) := by decide +kernel
theorem d_Hand_init_1 : decode b_Hand_init 1 = .ok (.invokespecial 3, 3) := by decide +kernel
theorem d_Hand_init_4 : decode b_Hand_init 4 = .ok (.aload_n 0, 1) := by decide +kernel
theorem d_Hand_init_5 : decode b_Hand_init 5 = .ok (.bipush 100, 2) := by decide +kernel
theorem d_Hand_init_7 : decode b_Hand_init 7 = .ok (.newarray .int, 2) := by decide +kernel
theorem d_Hand_init_9 : decode b_Hand_init 9 = .ok (.putfield 11, 3) := by decide +kernel
theorem d_Hand_init_12 : decode b_Hand_init 12 = .ok (.aload_n 0, 1) := by decide +kernel
theorem d_Hand_init_13 : decode b_Hand_init 13 = .ok (.iconst (-1), 1) := by decide +kernel
theorem d_Hand_init_14 : decode b_Hand_init 14 = .ok (.putfield 17, 3) := by decide +kernel
theorem d_Hand_init_17 : decode b_Hand_init 17 = .ok (.aload_n 0, 1) := by decide +kernel
theorem d_Hand_init_18 : decode b_Hand_init 18 = .ok (.aload_n 1, 1) := by decide +kernel
theorem d_Hand_init_19 : decode b_Hand_init 19 = .ok (.putfield 21, 3) := by decide +kernel
theorem d_Hand_init_22 : decode b_Hand_init 22 = .ok (.return_, 1) := by decide +kernel
theorem d_Hand_restart_0 : decode b_Hand_restart 0 = .ok (.aload_n 0, 1) := by decide +kernel
theorem d_Hand_restart_1 : decode b_Hand_restart 1 = .ok (.aload_n 0, 1) := by decide +kernel
theorem d_Hand_restart_2 : decode b_Hand_restart 2 = .ok (.getfield 21, 3) := by decide +kernel
theorem d_Hand_restart_5 : decode b_Hand_restart 5 = .ok (.getfield 25, 3) := by decide +kernel
theorem d_Hand_restart_8 : decode b_Hand_restart 8 = .ok (.putfield 28, 3) := by decide +kernel
theorem d_Hand_restart_11 : decode b_Hand_restart 11 = .ok (.aload_n 0, 1) := by decide +kernel
theorem d_Hand_restart_12 : decode b_Hand_restart 12 = .ok (.iconst 0, 1) := by decide +kernel
theorem d_Hand_restart_13 : decode b_Hand_restart 13 = .ok (.putfield 31, 3) := by decide +kernel
theorem d_Hand_restart_16 : decode b_Hand_restart 16 = .ok (.aload_n 0, 1) := by decide +kernel
theorem d_Hand_restart_17 : decode b_Hand_restart 17 = .ok (.iconst 0, 1) := by decide +kernel
theorem d_Hand_restart_18 : decode b_Hand_restart 18 = .ok (.putfield 34, 3) := by decide +kernel
theorem d_Hand_restart_21 : decode b_Hand_restart 21 = .ok (.aload_n 0, 1) := by decide +kernel
theorem d_Hand_restart_22 : decode b_Hand_restart 22 = .ok (.iconst (-1), 1) := by decide +kernel
theorem d_Hand_restart_23 : decode b_Hand_restart 23 = .ok (.putfield 17, 3) := by decide +kernel
theorem d_Hand_restart_26 : decode b_Hand_restart 26 = .ok (.aload_n 0, 1) := by decide +kernel
theorem d_Hand_restart_27 : decode b_Hand_restart 27 = .ok (.getfield 21, 3) := by decide +kernel
theorem d_Hand_restart_30 : decode b_Hand_restart 30 = .ok (.aload_n 0, 1) := by decide +kernel
theorem d_Hand_restart_31 : decode b_Hand_restart 31 = .ok (.getfield 11, 3) := by decide +kernel
theorem d_Hand_restart_34 : decode b_Hand_restart 34 = .ok (.invokevirtual 37, 3) := by decide +kernel
theorem d_Hand_restart_37 : decode b_Hand_restart 37 = .ok (.return_, 1) := by decide +kernel
theorem d_Net_layAsAtFirst_0 : decode b_Net_layAsAtFirst 0 = .ok (.iconst 0, 1) := by decide +kernel
theorem d_Net_layAsAtFirst_1 : decode b_Net_layAsAtFirst 1 = .ok (.istore_n 2, 1) := by decide +kernel
theorem d_Net_layAsAtFirst_2 : decode b_Net_layAsAtFirst 2 = .ok (.iload_n 2, 1) := by decide +kernel
theorem d_Net_layAsAtFirst_3 : decode b_Net_layAsAtFirst 3 = .ok (.aload_n 0, 1) := by decide +kernel
theorem d_Net_layAsAtFirst_4 : decode b_Net_layAsAtFirst 4 = .ok (.getfield 37, 3) := by decide +kernel
theorem d_Net_layAsAtFirst_7 : decode b_Net_layAsAtFirst 7 = .ok (.if_icmp .ge 40, 3) := by decide +kernel
theorem d_Net_layAsAtFirst_10 : decode b_Net_layAsAtFirst 10 = .ok (.aload_n 1, 1) := by decide +kernel
theorem d_Net_layAsAtFirst_11 : decode b_Net_layAsAtFirst 11 = .ok (.iload_n 2, 1) := by decide +kernel
theorem d_Net_layAsAtFirst_12 : decode b_Net_layAsAtFirst 12 = .ok (.aload_n 0, 1) := by decide +kernel
theorem d_Net_layAsAtFirst_13 : decode b_Net_layAsAtFirst 13 = .ok (.getfield 11, 3) := by decide +kernel
theorem d_Net_layAsAtFirst_16 : decode b_Net_layAsAtFirst 16 = .ok (.iload_n 2, 1) := by decide +kernel
theorem d_Net_layAsAtFirst_17 : decode b_Net_layAsAtFirst 17 = .ok (.iaload, 1) := by decide +kernel
theorem d_Net_layAsAtFirst_18 : decode b_Net_layAsAtFirst 18 = .ok (.bipush 7, 2) := by decide +kernel
theorem d_Net_layAsAtFirst_20 : decode b_Net_layAsAtFirst 20 = .ok (.if_icmp .ne 19, 3) := by decide +kernel
theorem d_Net_layAsAtFirst_23 : decode b_Net_layAsAtFirst 23 = .ok (.aload_n 0, 1) := by decide +kernel
theorem d_Net_layAsAtFirst_24 : decode b_Net_layAsAtFirst 24 = .ok (.getfield 15, 3) := by decide +kernel
theorem d_Net_layAsAtFirst_27 : decode b_Net_layAsAtFirst 27 = .ok (.iload_n 2, 1) := by decide +kernel
theorem d_Net_layAsAtFirst_28 : decode b_Net_layAsAtFirst 28 = .ok (.iaload, 1) := by decide +kernel
theorem d_Net_layAsAtFirst_29 : decode b_Net_layAsAtFirst 29 = .ok (.aload_n 0, 1) := by decide +kernel
theorem d_Net_layAsAtFirst_30 : decode b_Net_layAsAtFirst 30 = .ok (.getfield 60, 3) := by decide +kernel
theorem d_Net_layAsAtFirst_33 : decode b_Net_layAsAtFirst 33 = .ok (.invokestatic 66, 3) := by decide +kernel
theorem d_Net_layAsAtFirst_36 : decode b_Net_layAsAtFirst 36 = .ok (.goto 4, 3) := by decide +kernel
theorem d_Net_layAsAtFirst_39 : decode b_Net_layAsAtFirst 39 = .ok (.iconst 0, 1) := by decide +kernel
theorem d_Net_layAsAtFirst_40 : decode b_Net_layAsAtFirst 40 = .ok (.iastore, 1) := by decide +kernel
theorem d_Net_layAsAtFirst_41 : decode b_Net_layAsAtFirst 41 = .ok (.iinc 2 1, 3) := by decide +kernel
theorem d_Net_layAsAtFirst_44 : decode b_Net_layAsAtFirst 44 = .ok (.goto (-42), 3) := by decide +kernel
theorem d_Net_layAsAtFirst_47 : decode b_Net_layAsAtFirst 47 = .ok (.return_, 1) := by decide +kernel
theorem d_Net_lanesOfState_0 : decode b_Net_lanesOfState 0 = .ok (.iload_n 1, 1) := by decide +kernel
theorem d_Net_lanesOfState_1 : decode b_Net_lanesOfState 1 = .ok (.iload_n 0, 1) := by decide +kernel
theorem d_Net_lanesOfState_2 : decode b_Net_lanesOfState 2 = .ok (.ishr, 1) := by decide +kernel
theorem d_Net_lanesOfState_3 : decode b_Net_lanesOfState 3 = .ok (.iconst 1, 1) := by decide +kernel
theorem d_Net_lanesOfState_4 : decode b_Net_lanesOfState 4 = .ok (.iand, 1) := by decide +kernel
theorem d_Net_lanesOfState_5 : decode b_Net_lanesOfState 5 = .ok (.ifCond .ne 7, 3) := by decide +kernel
theorem d_Net_lanesOfState_8 : decode b_Net_lanesOfState 8 = .ok (.iconst 0, 1) := by decide +kernel
theorem d_Net_lanesOfState_9 : decode b_Net_lanesOfState 9 = .ok (.goto 4, 3) := by decide +kernel
theorem d_Net_lanesOfState_12 : decode b_Net_lanesOfState 12 = .ok (.iconst (-1), 1) := by decide +kernel
theorem d_Net_lanesOfState_13 : decode b_Net_lanesOfState 13 = .ok (.ireturn, 1) := by decide +kernel
theorem d_Hand_step_0 : decode b_Hand_step 0 = .ok (.aload_n 0, 1) := by decide +kernel
theorem d_Hand_step_1 : decode b_Hand_step 1 = .ok (.iload_n 1, 1) := by decide +kernel
theorem d_Hand_step_2 : decode b_Hand_step 2 = .ok (.aload_n 0, 1) := by decide +kernel
theorem d_Hand_step_3 : decode b_Hand_step 3 = .ok (.getfield 21, 3) := by decide +kernel
theorem d_Hand_step_6 : decode b_Hand_step 6 = .ok (.getfield 41, 3) := by decide +kernel
theorem d_Hand_step_9 : decode b_Hand_step 9 = .ok (.iconst 1, 1) := by decide +kernel
theorem d_Hand_step_10 : decode b_Hand_step 10 = .ok (.isub, 1) := by decide +kernel
theorem d_Hand_step_11 : decode b_Hand_step 11 = .ok (.iand, 1) := by decide +kernel
theorem d_Hand_step_12 : decode b_Hand_step 12 = .ok (.putfield 31, 3) := by decide +kernel
theorem d_Hand_step_15 : decode b_Hand_step 15 = .ok (.aload_n 0, 1) := by decide +kernel
theorem d_Hand_step_16 : decode b_Hand_step 16 = .ok (.getfield 21, 3) := by decide +kernel
theorem d_Hand_step_19 : decode b_Hand_step 19 = .ok (.aload_n 0, 1) := by decide +kernel
theorem d_Hand_step_20 : decode b_Hand_step 20 = .ok (.getfield 28, 3) := by decide +kernel
theorem d_Hand_step_23 : decode b_Hand_step 23 = .ok (.aload_n 0, 1) := by decide +kernel
theorem d_Hand_step_24 : decode b_Hand_step 24 = .ok (.getfield 11, 3) := by decide +kernel
theorem d_Hand_step_27 : decode b_Hand_step 27 = .ok (.invokevirtual 44, 3) := by decide +kernel
theorem d_Hand_step_30 : decode b_Hand_step 30 = .ok (.aload_n 0, 1) := by decide +kernel
theorem d_Hand_step_31 : decode b_Hand_step 31 = .ok (.aload_n 0, 1) := by decide +kernel
theorem d_Hand_step_32 : decode b_Hand_step 32 = .ok (.getfield 21, 3) := by decide +kernel
theorem d_Hand_step_35 : decode b_Hand_step 35 = .ok (.aload_n 0, 1) := by decide +kernel
theorem d_Hand_step_36 : decode b_Hand_step 36 = .ok (.getfield 31, 3) := by decide +kernel
theorem d_Hand_step_39 : decode b_Hand_step 39 = .ok (.aload_n 0, 1) := by decide +kernel
theorem d_Hand_step_40 : decode b_Hand_step 40 = .ok (.getfield 11, 3) := by decide +kernel
theorem d_Hand_step_43 : decode b_Hand_step 43 = .ok (.invokevirtual 48, 3) := by decide +kernel
theorem d_Hand_step_46 : decode b_Hand_step 46 = .ok (.putfield 17, 3) := by decide +kernel
theorem d_Hand_step_49 : decode b_Hand_step 49 = .ok (.aload_n 0, 1) := by decide +kernel
theorem d_Hand_step_50 : decode b_Hand_step 50 = .ok (.aload_n 0, 1) := by decide +kernel
theorem d_Hand_step_51 : decode b_Hand_step 51 = .ok (.getfield 21, 3) := by decide +kernel
theorem d_Hand_step_54 : decode b_Hand_step 54 = .ok (.aload_n 0, 1) := by decide +kernel
theorem d_Hand_step_55 : decode b_Hand_step 55 = .ok (.getfield 31, 3) := by decide +kernel
theorem d_Hand_step_58 : decode b_Hand_step 58 = .ok (.aload_n 0, 1) := by decide +kernel
theorem d_Hand_step_59 : decode b_Hand_step 59 = .ok (.getfield 11, 3) := by decide +kernel
theorem d_Hand_step_62 : decode b_Hand_step 62 = .ok (.invokevirtual 52, 3) := by decide +kernel
theorem d_Hand_step_65 : decode b_Hand_step 65 = .ok (.putfield 28, 3) := by decide +kernel
theorem d_Hand_step_68 : decode b_Hand_step 68 = .ok (.aload_n 0, 1) := by decide +kernel
theorem d_Hand_step_69 : decode b_Hand_step 69 = .ok (.dup, 1) := by decide +kernel
theorem d_Hand_step_70 : decode b_Hand_step 70 = .ok (.getfield 34, 3) := by decide +kernel
theorem d_Hand_step_73 : decode b_Hand_step 73 = .ok (.iconst 1, 1) := by decide +kernel
theorem d_Hand_step_74 : decode b_Hand_step 74 = .ok (.iadd, 1) := by decide +kernel
theorem d_Hand_step_75 : decode b_Hand_step 75 = .ok (.putfield 34, 3) := by decide +kernel
theorem d_Hand_step_78 : decode b_Hand_step 78 = .ok (.aload_n 0, 1) := by decide +kernel
theorem d_Hand_step_79 : decode b_Hand_step 79 = .ok (.getfield 17, 3) := by decide +kernel
theorem d_Hand_step_82 : decode b_Hand_step 82 = .ok (.iconst (-1), 1) := by decide +kernel
theorem d_Hand_step_83 : decode b_Hand_step 83 = .ok (.if_icmp .eq 7, 3) := by decide +kernel
theorem d_Hand_step_86 : decode b_Hand_step 86 = .ok (.iconst 1, 1) := by decide +kernel
theorem d_Hand_step_87 : decode b_Hand_step 87 = .ok (.goto 4, 3) := by decide +kernel
theorem d_Hand_step_90 : decode b_Hand_step 90 = .ok (.iconst 0, 1) := by decide +kernel
theorem d_Hand_step_91 : decode b_Hand_step 91 = .ok (.ireturn, 1) := by decide +kernel
theorem d_Net_settle_0 : decode b_Net_settle 0 = .ok (.iconst 0, 1) := by decide +kernel
theorem d_Net_settle_1 : decode b_Net_settle 1 = .ok (.istore_n 3, 1) := by decide +kernel
theorem d_Net_settle_2 : decode b_Net_settle 2 = .ok (.iload_n 3, 1) := by decide +kernel
theorem d_Net_settle_3 : decode b_Net_settle 3 = .ok (.aload_n 0, 1) := by decide +kernel
theorem d_Net_settle_4 : decode b_Net_settle 4 = .ok (.getfield 37, 3) := by decide +kernel
theorem d_Net_settle_7 : decode b_Net_settle 7 = .ok (.if_icmp .ge 19, 3) := by decide +kernel
theorem d_Net_settle_10 : decode b_Net_settle 10 = .ok (.aload_n 2, 1) := by decide +kernel
theorem d_Net_settle_11 : decode b_Net_settle 11 = .ok (.iload_n 3, 1) := by decide +kernel
theorem d_Net_settle_12 : decode b_Net_settle 12 = .ok (.aload_n 0, 1) := by decide +kernel
theorem d_Net_settle_13 : decode b_Net_settle 13 = .ok (.iload_n 3, 1) := by decide +kernel
theorem d_Net_settle_14 : decode b_Net_settle 14 = .ok (.iload_n 1, 1) := by decide +kernel
theorem d_Net_settle_15 : decode b_Net_settle 15 = .ok (.aload_n 2, 1) := by decide +kernel
theorem d_Net_settle_16 : decode b_Net_settle 16 = .ok (.invokevirtual 70, 3) := by decide +kernel
theorem d_Net_settle_19 : decode b_Net_settle 19 = .ok (.iastore, 1) := by decide +kernel
theorem d_Net_settle_20 : decode b_Net_settle 20 = .ok (.iinc 3 1, 3) := by decide +kernel
theorem d_Net_settle_23 : decode b_Net_settle 23 = .ok (.goto (-21), 3) := by decide +kernel
theorem d_Net_settle_26 : decode b_Net_settle 26 = .ok (.return_, 1) := by decide +kernel
theorem d_Net_lanesOf_0 : decode b_Net_lanesOf 0 = .ok (.aload_n 0, 1) := by decide +kernel
theorem d_Net_lanesOf_1 : decode b_Net_lanesOf 1 = .ok (.getfield 15, 3) := by decide +kernel
theorem d_Net_lanesOf_4 : decode b_Net_lanesOf 4 = .ok (.iload_n 1, 1) := by decide +kernel
theorem d_Net_lanesOf_5 : decode b_Net_lanesOf 5 = .ok (.iaload, 1) := by decide +kernel
theorem d_Net_lanesOf_6 : decode b_Net_lanesOf 6 = .ok (.istore 4, 2) := by decide +kernel
theorem d_Net_lanesOf_8 : decode b_Net_lanesOf 8 = .ok (.aload_n 0, 1) := by decide +kernel
theorem d_Net_lanesOf_9 : decode b_Net_lanesOf 9 = .ok (.getfield 18, 3) := by decide +kernel
theorem d_Net_lanesOf_12 : decode b_Net_lanesOf 12 = .ok (.iload_n 1, 1) := by decide +kernel
theorem d_Net_lanesOf_13 : decode b_Net_lanesOf 13 = .ok (.iaload, 1) := by decide +kernel
theorem d_Net_lanesOf_14 : decode b_Net_lanesOf 14 = .ok (.istore 5, 2) := by decide +kernel
theorem d_Net_lanesOf_16 : decode b_Net_lanesOf 16 = .ok (.aload_n 0, 1) := by decide +kernel
theorem d_Net_lanesOf_17 : decode b_Net_lanesOf 17 = .ok (.getfield 11, 3) := by decide +kernel
theorem d_Net_lanesOf_20 : decode b_Net_lanesOf 20 = .ok (.iload_n 1, 1) := by decide +kernel
theorem d_Net_lanesOf_21 : decode b_Net_lanesOf 21 = .ok (.iaload, 1) := by decide +kernel
theorem d_Net_lanesOf_22 : decode b_Net_lanesOf 22 = .ok (.tableswitch 90 0 6 #[42, 52, 62, 72, 79, 81, 83], 42) := by decide +kernel
theorem d_Net_lanesOf_64 : decode b_Net_lanesOf 64 = .ok (.aload_n 3, 1) := by decide +kernel
theorem d_Net_lanesOf_65 : decode b_Net_lanesOf 65 = .ok (.iload 4, 2) := by decide +kernel
theorem d_Net_lanesOf_67 : decode b_Net_lanesOf 67 = .ok (.iaload, 1) := by decide +kernel
theorem d_Net_lanesOf_68 : decode b_Net_lanesOf 68 = .ok (.aload_n 3, 1) := by decide +kernel
theorem d_Net_lanesOf_69 : decode b_Net_lanesOf 69 = .ok (.iload 5, 2) := by decide +kernel
theorem d_Net_lanesOf_71 : decode b_Net_lanesOf 71 = .ok (.iaload, 1) := by decide +kernel
theorem d_Net_lanesOf_72 : decode b_Net_lanesOf 72 = .ok (.iand, 1) := by decide +kernel
theorem d_Net_lanesOf_73 : decode b_Net_lanesOf 73 = .ok (.ireturn, 1) := by decide +kernel
theorem d_Net_lanesOf_74 : decode b_Net_lanesOf 74 = .ok (.aload_n 3, 1) := by decide +kernel
theorem d_Net_lanesOf_75 : decode b_Net_lanesOf 75 = .ok (.iload 4, 2) := by decide +kernel
theorem d_Net_lanesOf_77 : decode b_Net_lanesOf 77 = .ok (.iaload, 1) := by decide +kernel
theorem d_Net_lanesOf_78 : decode b_Net_lanesOf 78 = .ok (.aload_n 3, 1) := by decide +kernel
theorem d_Net_lanesOf_79 : decode b_Net_lanesOf 79 = .ok (.iload 5, 2) := by decide +kernel
theorem d_Net_lanesOf_81 : decode b_Net_lanesOf 81 = .ok (.iaload, 1) := by decide +kernel
theorem d_Net_lanesOf_82 : decode b_Net_lanesOf 82 = .ok (.ior, 1) := by decide +kernel
theorem d_Net_lanesOf_83 : decode b_Net_lanesOf 83 = .ok (.ireturn, 1) := by decide +kernel
theorem d_Net_lanesOf_84 : decode b_Net_lanesOf 84 = .ok (.aload_n 3, 1) := by decide +kernel
theorem d_Net_lanesOf_85 : decode b_Net_lanesOf 85 = .ok (.iload 4, 2) := by decide +kernel
theorem d_Net_lanesOf_87 : decode b_Net_lanesOf 87 = .ok (.iaload, 1) := by decide +kernel
theorem d_Net_lanesOf_88 : decode b_Net_lanesOf 88 = .ok (.aload_n 3, 1) := by decide +kernel
theorem d_Net_lanesOf_89 : decode b_Net_lanesOf 89 = .ok (.iload 5, 2) := by decide +kernel
theorem d_Net_lanesOf_91 : decode b_Net_lanesOf 91 = .ok (.iaload, 1) := by decide +kernel
theorem d_Net_lanesOf_92 : decode b_Net_lanesOf 92 = .ok (.ixor, 1) := by decide +kernel
theorem d_Net_lanesOf_93 : decode b_Net_lanesOf 93 = .ok (.ireturn, 1) := by decide +kernel
theorem d_Net_lanesOf_94 : decode b_Net_lanesOf 94 = .ok (.aload_n 3, 1) := by decide +kernel
theorem d_Net_lanesOf_95 : decode b_Net_lanesOf 95 = .ok (.iload 4, 2) := by decide +kernel
theorem d_Net_lanesOf_97 : decode b_Net_lanesOf 97 = .ok (.iaload, 1) := by decide +kernel
theorem d_Net_lanesOf_98 : decode b_Net_lanesOf 98 = .ok (.iconst (-1), 1) := by decide +kernel
theorem d_Net_lanesOf_99 : decode b_Net_lanesOf 99 = .ok (.ixor, 1) := by decide +kernel
theorem d_Net_lanesOf_100 : decode b_Net_lanesOf 100 = .ok (.ireturn, 1) := by decide +kernel
theorem d_Net_lanesOf_101 : decode b_Net_lanesOf 101 = .ok (.iconst 0, 1) := by decide +kernel
theorem d_Net_lanesOf_102 : decode b_Net_lanesOf 102 = .ok (.ireturn, 1) := by decide +kernel
theorem d_Net_lanesOf_103 : decode b_Net_lanesOf 103 = .ok (.iconst (-1), 1) := by decide +kernel
theorem d_Net_lanesOf_104 : decode b_Net_lanesOf 104 = .ok (.ireturn, 1) := by decide +kernel
theorem d_Net_lanesOf_105 : decode b_Net_lanesOf 105 = .ok (.getstatic 74, 3) := by decide +kernel
theorem d_Net_lanesOf_108 : decode b_Net_lanesOf 108 = .ok (.iload 4, 2) := by decide +kernel
theorem d_Net_lanesOf_110 : decode b_Net_lanesOf 110 = .ok (.iaload, 1) := by decide +kernel
theorem d_Net_lanesOf_111 : decode b_Net_lanesOf 111 = .ok (.ireturn, 1) := by decide +kernel
theorem d_Net_lanesOf_112 : decode b_Net_lanesOf 112 = .ok (.iload 4, 2) := by decide +kernel
theorem d_Net_lanesOf_114 : decode b_Net_lanesOf 114 = .ok (.iload_n 2, 1) := by decide +kernel
theorem d_Net_lanesOf_115 : decode b_Net_lanesOf 115 = .ok (.invokestatic 66, 3) := by decide +kernel
theorem d_Net_lanesOf_118 : decode b_Net_lanesOf 118 = .ok (.ireturn, 1) := by decide +kernel
theorem d_Net_firstDifferingPair_0 : decode b_Net_firstDifferingPair 0 = .ok (.iconst 0, 1) := by decide +kernel
theorem d_Net_firstDifferingPair_1 : decode b_Net_firstDifferingPair 1 = .ok (.istore_n 3, 1) := by decide +kernel
theorem d_Net_firstDifferingPair_2 : decode b_Net_firstDifferingPair 2 = .ok (.iload_n 3, 1) := by decide +kernel
theorem d_Net_firstDifferingPair_3 : decode b_Net_firstDifferingPair 3 = .ok (.aload_n 0, 1) := by decide +kernel
theorem d_Net_firstDifferingPair_4 : decode b_Net_firstDifferingPair 4 = .ok (.getfield 43, 3) := by decide +kernel
theorem d_Net_firstDifferingPair_7 : decode b_Net_firstDifferingPair 7 = .ok (.if_icmp .ge 39, 3) := by decide +kernel
theorem d_Net_firstDifferingPair_10 : decode b_Net_firstDifferingPair 10 = .ok (.aload_n 2, 1) := by decide +kernel
theorem d_Net_firstDifferingPair_11 : decode b_Net_firstDifferingPair 11 = .ok (.aload_n 0, 1) := by decide +kernel
theorem d_Net_firstDifferingPair_12 : decode b_Net_firstDifferingPair 12 = .ok (.getfield 24, 3) := by decide +kernel
theorem d_Net_firstDifferingPair_15 : decode b_Net_firstDifferingPair 15 = .ok (.iload_n 3, 1) := by decide +kernel
theorem d_Net_firstDifferingPair_16 : decode b_Net_firstDifferingPair 16 = .ok (.iaload, 1) := by decide +kernel
theorem d_Net_firstDifferingPair_17 : decode b_Net_firstDifferingPair 17 = .ok (.iaload, 1) := by decide +kernel
theorem d_Net_firstDifferingPair_18 : decode b_Net_firstDifferingPair 18 = .ok (.aload_n 2, 1) := by decide +kernel
theorem d_Net_firstDifferingPair_19 : decode b_Net_firstDifferingPair 19 = .ok (.aload_n 0, 1) := by decide +kernel
theorem d_Net_firstDifferingPair_20 : decode b_Net_firstDifferingPair 20 = .ok (.getfield 27, 3) := by decide +kernel
theorem d_Net_firstDifferingPair_23 : decode b_Net_firstDifferingPair 23 = .ok (.iload_n 3, 1) := by decide +kernel
theorem d_Net_firstDifferingPair_24 : decode b_Net_firstDifferingPair 24 = .ok (.iaload, 1) := by decide +kernel
theorem d_Net_firstDifferingPair_25 : decode b_Net_firstDifferingPair 25 = .ok (.iaload, 1) := by decide +kernel
theorem d_Net_firstDifferingPair_26 : decode b_Net_firstDifferingPair 26 = .ok (.ixor, 1) := by decide +kernel
theorem d_Net_firstDifferingPair_27 : decode b_Net_firstDifferingPair 27 = .ok (.istore 4, 2) := by decide +kernel
theorem d_Net_firstDifferingPair_29 : decode b_Net_firstDifferingPair 29 = .ok (.iload 4, 2) := by decide +kernel
theorem d_Net_firstDifferingPair_31 : decode b_Net_firstDifferingPair 31 = .ok (.iload_n 1, 1) := by decide +kernel
theorem d_Net_firstDifferingPair_32 : decode b_Net_firstDifferingPair 32 = .ok (.ishr, 1) := by decide +kernel
theorem d_Net_firstDifferingPair_33 : decode b_Net_firstDifferingPair 33 = .ok (.iconst 1, 1) := by decide +kernel
theorem d_Net_firstDifferingPair_34 : decode b_Net_firstDifferingPair 34 = .ok (.iand, 1) := by decide +kernel
theorem d_Net_firstDifferingPair_35 : decode b_Net_firstDifferingPair 35 = .ok (.ifCond .eq 5, 3) := by decide +kernel
theorem d_Net_firstDifferingPair_38 : decode b_Net_firstDifferingPair 38 = .ok (.iload_n 3, 1) := by decide +kernel
theorem d_Net_firstDifferingPair_39 : decode b_Net_firstDifferingPair 39 = .ok (.ireturn, 1) := by decide +kernel
theorem d_Net_firstDifferingPair_40 : decode b_Net_firstDifferingPair 40 = .ok (.iinc 3 1, 3) := by decide +kernel
theorem d_Net_firstDifferingPair_43 : decode b_Net_firstDifferingPair 43 = .ok (.goto (-41), 3) := by decide +kernel
theorem d_Net_firstDifferingPair_46 : decode b_Net_firstDifferingPair 46 = .ok (.iconst (-1), 1) := by decide +kernel
theorem d_Net_firstDifferingPair_47 : decode b_Net_firstDifferingPair 47 = .ok (.ireturn, 1) := by decide +kernel
theorem d_Net_rowAfter_0 : decode b_Net_rowAfter 0 = .ok (.iconst 0, 1) := by decide +kernel
theorem d_Net_rowAfter_1 : decode b_Net_rowAfter 1 = .ok (.istore_n 3, 1) := by decide +kernel
theorem d_Net_rowAfter_2 : decode b_Net_rowAfter 2 = .ok (.iconst 0, 1) := by decide +kernel
theorem d_Net_rowAfter_3 : decode b_Net_rowAfter 3 = .ok (.istore 4, 2) := by decide +kernel
theorem d_Net_rowAfter_5 : decode b_Net_rowAfter 5 = .ok (.iload 4, 2) := by decide +kernel
theorem d_Net_rowAfter_7 : decode b_Net_rowAfter 7 = .ok (.aload_n 0, 1) := by decide +kernel
theorem d_Net_rowAfter_8 : decode b_Net_rowAfter 8 = .ok (.getfield 40, 3) := by decide +kernel
theorem d_Net_rowAfter_11 : decode b_Net_rowAfter 11 = .ok (.if_icmp .ge 28, 3) := by decide +kernel
theorem d_Net_rowAfter_14 : decode b_Net_rowAfter 14 = .ok (.iload_n 3, 1) := by decide +kernel
theorem d_Net_rowAfter_15 : decode b_Net_rowAfter 15 = .ok (.aload_n 2, 1) := by decide +kernel
theorem d_Net_rowAfter_16 : decode b_Net_rowAfter 16 = .ok (.aload_n 0, 1) := by decide +kernel
theorem d_Net_rowAfter_17 : decode b_Net_rowAfter 17 = .ok (.getfield 21, 3) := by decide +kernel
theorem d_Net_rowAfter_20 : decode b_Net_rowAfter 20 = .ok (.iload 4, 2) := by decide +kernel
theorem d_Net_rowAfter_22 : decode b_Net_rowAfter 22 = .ok (.iaload, 1) := by decide +kernel
theorem d_Net_rowAfter_23 : decode b_Net_rowAfter 23 = .ok (.iaload, 1) := by decide +kernel
theorem d_Net_rowAfter_24 : decode b_Net_rowAfter 24 = .ok (.iload_n 1, 1) := by decide +kernel
theorem d_Net_rowAfter_25 : decode b_Net_rowAfter 25 = .ok (.ishr, 1) := by decide +kernel
theorem d_Net_rowAfter_26 : decode b_Net_rowAfter 26 = .ok (.iconst 1, 1) := by decide +kernel
theorem d_Net_rowAfter_27 : decode b_Net_rowAfter 27 = .ok (.iand, 1) := by decide +kernel
theorem d_Net_rowAfter_28 : decode b_Net_rowAfter 28 = .ok (.iload 4, 2) := by decide +kernel
theorem d_Net_rowAfter_30 : decode b_Net_rowAfter 30 = .ok (.ishl, 1) := by decide +kernel
theorem d_Net_rowAfter_31 : decode b_Net_rowAfter 31 = .ok (.ior, 1) := by decide +kernel
theorem d_Net_rowAfter_32 : decode b_Net_rowAfter 32 = .ok (.istore_n 3, 1) := by decide +kernel
theorem d_Net_rowAfter_33 : decode b_Net_rowAfter 33 = .ok (.iinc 4 1, 3) := by decide +kernel
theorem d_Net_rowAfter_36 : decode b_Net_rowAfter 36 = .ok (.goto (-31), 3) := by decide +kernel
theorem d_Net_rowAfter_39 : decode b_Net_rowAfter 39 = .ok (.iload_n 3, 1) := by decide +kernel
theorem d_Net_rowAfter_40 : decode b_Net_rowAfter 40 = .ok (.ireturn, 1) := by decide +kernel
theorem d_Net_gateCount_0 : decode b_Net_gateCount 0 = .ok (.aload_n 0, 1) := by decide +kernel
theorem d_Net_gateCount_1 : decode b_Net_gateCount 1 = .ok (.getfield 37, 3) := by decide +kernel
theorem d_Net_gateCount_4 : decode b_Net_gateCount 4 = .ok (.aload_n 0, 1) := by decide +kernel
theorem d_Net_gateCount_5 : decode b_Net_gateCount 5 = .ok (.getfield 30, 3) := by decide +kernel
theorem d_Net_gateCount_8 : decode b_Net_gateCount 8 = .ok (.isub, 1) := by decide +kernel
theorem d_Net_gateCount_9 : decode b_Net_gateCount 9 = .ok (.aload_n 0, 1) := by decide +kernel
theorem d_Net_gateCount_10 : decode b_Net_gateCount 10 = .ok (.getfield 40, 3) := by decide +kernel
theorem d_Net_gateCount_13 : decode b_Net_gateCount 13 = .ok (.isub, 1) := by decide +kernel
theorem d_Net_gateCount_14 : decode b_Net_gateCount 14 = .ok (.ireturn, 1) := by decide +kernel
theorem d_Net_hasAllStates_0 : decode b_Net_hasAllStates 0 = .ok (.aload_n 0, 1) := by decide +kernel
theorem d_Net_hasAllStates_1 : decode b_Net_hasAllStates 1 = .ok (.getfield 40, 3) := by decide +kernel
theorem d_Net_hasAllStates_4 : decode b_Net_hasAllStates 4 = .ok (.bipush 14, 2) := by decide +kernel
theorem d_Net_hasAllStates_6 : decode b_Net_hasAllStates 6 = .ok (.if_icmp .lt 7, 3) := by decide +kernel
theorem d_Net_hasAllStates_9 : decode b_Net_hasAllStates 9 = .ok (.iconst 1, 1) := by decide +kernel
theorem d_Net_hasAllStates_10 : decode b_Net_hasAllStates 10 = .ok (.goto 4, 3) := by decide +kernel
theorem d_Net_hasAllStates_13 : decode b_Net_hasAllStates 13 = .ok (.iconst 0, 1) := by decide +kernel
theorem d_Net_hasAllStates_14 : decode b_Net_hasAllStates 14 = .ok (.ireturn, 1) := by decide +kernel
theorem d_Net_hasAllNodes_0 : decode b_Net_hasAllNodes 0 = .ok (.aload_n 0, 1) := by decide +kernel
theorem d_Net_hasAllNodes_1 : decode b_Net_hasAllNodes 1 = .ok (.getfield 37, 3) := by decide +kernel
theorem d_Net_hasAllNodes_4 : decode b_Net_hasAllNodes 4 = .ok (.bipush 100, 2) := by decide +kernel
theorem d_Net_hasAllNodes_6 : decode b_Net_hasAllNodes 6 = .ok (.if_icmp .lt 7, 3) := by decide +kernel
theorem d_Net_hasAllNodes_9 : decode b_Net_hasAllNodes 9 = .ok (.iconst 1, 1) := by decide +kernel
theorem d_Net_hasAllNodes_10 : decode b_Net_hasAllNodes 10 = .ok (.goto 4, 3) := by decide +kernel
theorem d_Net_hasAllNodes_13 : decode b_Net_hasAllNodes 13 = .ok (.iconst 0, 1) := by decide +kernel
theorem d_Net_hasAllNodes_14 : decode b_Net_hasAllNodes 14 = .ok (.ireturn, 1) := by decide +kernel
theorem d_Net_addState_0 : decode b_Net_addState 0 = .ok (.aload_n 0, 1) := by decide +kernel
theorem d_Net_addState_1 : decode b_Net_addState 1 = .ok (.bipush 7, 2) := by decide +kernel
theorem d_Net_addState_3 : decode b_Net_addState 3 = .ok (.aload_n 0, 1) := by decide +kernel
theorem d_Net_addState_4 : decode b_Net_addState 4 = .ok (.getfield 40, 3) := by decide +kernel
theorem d_Net_addState_7 : decode b_Net_addState 7 = .ok (.iconst 0, 1) := by decide +kernel
theorem d_Net_addState_8 : decode b_Net_addState 8 = .ok (.invokevirtual 56, 3) := by decide +kernel
theorem d_Net_addState_11 : decode b_Net_addState 11 = .ok (.istore_n 3, 1) := by decide +kernel
theorem d_Net_addState_12 : decode b_Net_addState 12 = .ok (.aload_n 0, 1) := by decide +kernel
theorem d_Net_addState_13 : decode b_Net_addState 13 = .ok (.getfield 21, 3) := by decide +kernel
theorem d_Net_addState_16 : decode b_Net_addState 16 = .ok (.aload_n 0, 1) := by decide +kernel
theorem d_Net_addState_17 : decode b_Net_addState 17 = .ok (.getfield 40, 3) := by decide +kernel
theorem d_Net_addState_20 : decode b_Net_addState 20 = .ok (.iload_n 3, 1) := by decide +kernel
theorem d_Net_addState_21 : decode b_Net_addState 21 = .ok (.iastore, 1) := by decide +kernel
theorem d_Net_addState_22 : decode b_Net_addState 22 = .ok (.iload_n 2, 1) := by decide +kernel
theorem d_Net_addState_23 : decode b_Net_addState 23 = .ok (.ifCond .eq 18, 3) := by decide +kernel
theorem d_Net_addState_26 : decode b_Net_addState 26 = .ok (.aload_n 0, 1) := by decide +kernel
theorem d_Net_addState_27 : decode b_Net_addState 27 = .ok (.dup, 1) := by decide +kernel
theorem d_Net_addState_28 : decode b_Net_addState 28 = .ok (.getfield 60, 3) := by decide +kernel
theorem d_Net_addState_31 : decode b_Net_addState 31 = .ok (.iconst 1, 1) := by decide +kernel
theorem d_Net_addState_32 : decode b_Net_addState 32 = .ok (.aload_n 0, 1) := by decide +kernel
theorem d_Net_addState_33 : decode b_Net_addState 33 = .ok (.getfield 40, 3) := by decide +kernel
theorem d_Net_addState_36 : decode b_Net_addState 36 = .ok (.ishl, 1) := by decide +kernel
theorem d_Net_addState_37 : decode b_Net_addState 37 = .ok (.ior, 1) := by decide +kernel
theorem d_Net_addState_38 : decode b_Net_addState 38 = .ok (.putfield 60, 3) := by decide +kernel
theorem d_Net_addState_41 : decode b_Net_addState 41 = .ok (.aload_n 0, 1) := by decide +kernel
theorem d_Net_addState_42 : decode b_Net_addState 42 = .ok (.dup, 1) := by decide +kernel
theorem d_Net_addState_43 : decode b_Net_addState 43 = .ok (.getfield 63, 3) := by decide +kernel
theorem d_Net_addState_46 : decode b_Net_addState 46 = .ok (.iload_n 1, 1) := by decide +kernel
theorem d_Net_addState_47 : decode b_Net_addState 47 = .ok (.iadd, 1) := by decide +kernel
theorem d_Net_addState_48 : decode b_Net_addState 48 = .ok (.putfield 63, 3) := by decide +kernel
theorem d_Net_addState_51 : decode b_Net_addState 51 = .ok (.aload_n 0, 1) := by decide +kernel
theorem d_Net_addState_52 : decode b_Net_addState 52 = .ok (.dup, 1) := by decide +kernel
theorem d_Net_addState_53 : decode b_Net_addState 53 = .ok (.getfield 40, 3) := by decide +kernel
theorem d_Net_addState_56 : decode b_Net_addState 56 = .ok (.iconst 1, 1) := by decide +kernel
theorem d_Net_addState_57 : decode b_Net_addState 57 = .ok (.iadd, 1) := by decide +kernel
theorem d_Net_addState_58 : decode b_Net_addState 58 = .ok (.putfield 40, 3) := by decide +kernel
theorem d_Net_addState_61 : decode b_Net_addState 61 = .ok (.iload_n 3, 1) := by decide +kernel
theorem d_Net_addState_62 : decode b_Net_addState 62 = .ok (.ireturn, 1) := by decide +kernel
theorem d_Net_addNode_0 : decode b_Net_addNode 0 = .ok (.aload_n 0, 1) := by decide +kernel
theorem d_Net_addNode_1 : decode b_Net_addNode 1 = .ok (.getfield 37, 3) := by decide +kernel
theorem d_Net_addNode_4 : decode b_Net_addNode 4 = .ok (.istore 4, 2) := by decide +kernel
theorem d_Net_addNode_6 : decode b_Net_addNode 6 = .ok (.aload_n 0, 1) := by decide +kernel
theorem d_Net_addNode_7 : decode b_Net_addNode 7 = .ok (.getfield 11, 3) := by decide +kernel
theorem d_Net_addNode_10 : decode b_Net_addNode 10 = .ok (.iload 4, 2) := by decide +kernel
theorem d_Net_addNode_12 : decode b_Net_addNode 12 = .ok (.iload_n 1, 1) := by decide +kernel
theorem d_Net_addNode_13 : decode b_Net_addNode 13 = .ok (.iastore, 1) := by decide +kernel
theorem d_Net_addNode_14 : decode b_Net_addNode 14 = .ok (.aload_n 0, 1) := by decide +kernel
theorem d_Net_addNode_15 : decode b_Net_addNode 15 = .ok (.getfield 15, 3) := by decide +kernel
theorem d_Net_addNode_18 : decode b_Net_addNode 18 = .ok (.iload 4, 2) := by decide +kernel
theorem d_Net_addNode_20 : decode b_Net_addNode 20 = .ok (.iload_n 2, 1) := by decide +kernel
theorem d_Net_addNode_21 : decode b_Net_addNode 21 = .ok (.iastore, 1) := by decide +kernel
theorem d_Net_addNode_22 : decode b_Net_addNode 22 = .ok (.aload_n 0, 1) := by decide +kernel
theorem d_Net_addNode_23 : decode b_Net_addNode 23 = .ok (.getfield 18, 3) := by decide +kernel
theorem d_Net_addNode_26 : decode b_Net_addNode 26 = .ok (.iload 4, 2) := by decide +kernel
theorem d_Net_addNode_28 : decode b_Net_addNode 28 = .ok (.iload_n 3, 1) := by decide +kernel
theorem d_Net_addNode_29 : decode b_Net_addNode 29 = .ok (.iastore, 1) := by decide +kernel
theorem d_Net_addNode_30 : decode b_Net_addNode 30 = .ok (.aload_n 0, 1) := by decide +kernel
theorem d_Net_addNode_31 : decode b_Net_addNode 31 = .ok (.dup, 1) := by decide +kernel
theorem d_Net_addNode_32 : decode b_Net_addNode 32 = .ok (.getfield 37, 3) := by decide +kernel
theorem d_Net_addNode_35 : decode b_Net_addNode 35 = .ok (.iconst 1, 1) := by decide +kernel
theorem d_Net_addNode_36 : decode b_Net_addNode 36 = .ok (.iadd, 1) := by decide +kernel
theorem d_Net_addNode_37 : decode b_Net_addNode 37 = .ok (.putfield 37, 3) := by decide +kernel
theorem d_Net_addNode_40 : decode b_Net_addNode 40 = .ok (.iload 4, 2) := by decide +kernel
theorem d_Net_addNode_42 : decode b_Net_addNode 42 = .ok (.ireturn, 1) := by decide +kernel
theorem d_Net_takesGate_0 : decode b_Net_takesGate 0 = .ok (.iload_n 1, 1) := by decide +kernel
theorem d_Net_takesGate_1 : decode b_Net_takesGate 1 = .ok (.ifCond .lt 8, 3) := by decide +kernel
theorem d_Net_takesGate_4 : decode b_Net_takesGate 4 = .ok (.iload_n 1, 1) := by decide +kernel
theorem d_Net_takesGate_5 : decode b_Net_takesGate 5 = .ok (.iconst 5, 1) := by decide +kernel
theorem d_Net_takesGate_6 : decode b_Net_takesGate 6 = .ok (.if_icmp .le 5, 3) := by decide +kernel
theorem d_Net_takesGate_9 : decode b_Net_takesGate 9 = .ok (.iconst 0, 1) := by decide +kernel
theorem d_Net_takesGate_10 : decode b_Net_takesGate 10 = .ok (.ireturn, 1) := by decide +kernel
theorem d_Net_takesGate_11 : decode b_Net_takesGate 11 = .ok (.iload_n 1, 1) := by decide +kernel
theorem d_Net_takesGate_12 : decode b_Net_takesGate 12 = .ok (.invokestatic 50, 3) := by decide +kernel
theorem d_Net_takesGate_15 : decode b_Net_takesGate 15 = .ok (.ifCond .eq 11, 3) := by decide +kernel
theorem d_Net_takesGate_18 : decode b_Net_takesGate 18 = .ok (.aload_n 0, 1) := by decide +kernel
theorem d_Net_takesGate_19 : decode b_Net_takesGate 19 = .ok (.iload_n 2, 1) := by decide +kernel
theorem d_Net_takesGate_20 : decode b_Net_takesGate 20 = .ok (.invokevirtual 46, 3) := by decide +kernel
theorem d_Net_takesGate_23 : decode b_Net_takesGate 23 = .ok (.ifCond .eq 22, 3) := by decide +kernel
theorem d_Net_takesGate_26 : decode b_Net_takesGate 26 = .ok (.iload_n 1, 1) := by decide +kernel
theorem d_Net_takesGate_27 : decode b_Net_takesGate 27 = .ok (.invokestatic 53, 3) := by decide +kernel
theorem d_Net_takesGate_30 : decode b_Net_takesGate 30 = .ok (.ifCond .eq 11, 3) := by decide +kernel
theorem d_Net_takesGate_33 : decode b_Net_takesGate 33 = .ok (.aload_n 0, 1) := by decide +kernel
theorem d_Net_takesGate_34 : decode b_Net_takesGate 34 = .ok (.iload_n 3, 1) := by decide +kernel
theorem d_Net_takesGate_35 : decode b_Net_takesGate 35 = .ok (.invokevirtual 46, 3) := by decide +kernel
theorem d_Net_takesGate_38 : decode b_Net_takesGate 38 = .ok (.ifCond .eq 7, 3) := by decide +kernel
theorem d_Net_takesGate_41 : decode b_Net_takesGate 41 = .ok (.iconst 1, 1) := by decide +kernel
theorem d_Net_takesGate_42 : decode b_Net_takesGate 42 = .ok (.goto 4, 3) := by decide +kernel
theorem d_Net_takesGate_45 : decode b_Net_takesGate 45 = .ok (.iconst 0, 1) := by decide +kernel
theorem d_Net_takesGate_46 : decode b_Net_takesGate 46 = .ok (.ireturn, 1) := by decide +kernel
theorem d_Net_wantsLeft_0 : decode b_Net_wantsLeft 0 = .ok (.iload_n 0, 1) := by decide +kernel
theorem d_Net_wantsLeft_1 : decode b_Net_wantsLeft 1 = .ok (.iconst 3, 1) := by decide +kernel
theorem d_Net_wantsLeft_2 : decode b_Net_wantsLeft 2 = .ok (.if_icmp .gt 7, 3) := by decide +kernel
theorem d_Net_wantsLeft_5 : decode b_Net_wantsLeft 5 = .ok (.iconst 1, 1) := by decide +kernel
theorem d_Net_wantsLeft_6 : decode b_Net_wantsLeft 6 = .ok (.goto 4, 3) := by decide +kernel
theorem d_Net_wantsLeft_9 : decode b_Net_wantsLeft 9 = .ok (.iconst 0, 1) := by decide +kernel
theorem d_Net_wantsLeft_10 : decode b_Net_wantsLeft 10 = .ok (.ireturn, 1) := by decide +kernel
theorem d_Net_isNode_0 : decode b_Net_isNode 0 = .ok (.iload_n 1, 1) := by decide +kernel
theorem d_Net_isNode_1 : decode b_Net_isNode 1 = .ok (.ifCond .lt 15, 3) := by decide +kernel
theorem d_Net_isNode_4 : decode b_Net_isNode 4 = .ok (.iload_n 1, 1) := by decide +kernel
theorem d_Net_isNode_5 : decode b_Net_isNode 5 = .ok (.aload_n 0, 1) := by decide +kernel
theorem d_Net_isNode_6 : decode b_Net_isNode 6 = .ok (.getfield 37, 3) := by decide +kernel
theorem d_Net_isNode_9 : decode b_Net_isNode 9 = .ok (.if_icmp .ge 7, 3) := by decide +kernel
theorem d_Net_isNode_12 : decode b_Net_isNode 12 = .ok (.iconst 1, 1) := by decide +kernel
theorem d_Net_isNode_13 : decode b_Net_isNode 13 = .ok (.goto 4, 3) := by decide +kernel
theorem d_Net_isNode_16 : decode b_Net_isNode 16 = .ok (.iconst 0, 1) := by decide +kernel
theorem d_Net_isNode_17 : decode b_Net_isNode 17 = .ok (.ireturn, 1) := by decide +kernel
theorem d_Net_wantsRight_0 : decode b_Net_wantsRight 0 = .ok (.iload_n 0, 1) := by decide +kernel
theorem d_Net_wantsRight_1 : decode b_Net_wantsRight 1 = .ok (.iconst 3, 1) := by decide +kernel
theorem d_Net_wantsRight_2 : decode b_Net_wantsRight 2 = .ok (.if_icmp .ge 7, 3) := by decide +kernel
theorem d_Net_wantsRight_5 : decode b_Net_wantsRight 5 = .ok (.iconst 1, 1) := by decide +kernel
theorem d_Net_wantsRight_6 : decode b_Net_wantsRight 6 = .ok (.goto 4, 3) := by decide +kernel
theorem d_Net_wantsRight_9 : decode b_Net_wantsRight 9 = .ok (.iconst 0, 1) := by decide +kernel
theorem d_Net_wantsRight_10 : decode b_Net_wantsRight 10 = .ok (.ireturn, 1) := by decide +kernel
theorem d_Net_addGate_0 : decode b_Net_addGate 0 = .ok (.aload_n 0, 1) := by decide +kernel
theorem d_Net_addGate_1 : decode b_Net_addGate 1 = .ok (.iload_n 1, 1) := by decide +kernel
theorem d_Net_addGate_2 : decode b_Net_addGate 2 = .ok (.iload_n 1, 1) := by decide +kernel
theorem d_Net_addGate_3 : decode b_Net_addGate 3 = .ok (.invokestatic 50, 3) := by decide +kernel
theorem d_Net_addGate_6 : decode b_Net_addGate 6 = .ok (.ifCond .eq 7, 3) := by decide +kernel
theorem d_Net_addGate_9 : decode b_Net_addGate 9 = .ok (.iload_n 2, 1) := by decide +kernel
theorem d_Net_addGate_10 : decode b_Net_addGate 10 = .ok (.goto 4, 3) := by decide +kernel
theorem d_Net_addGate_13 : decode b_Net_addGate 13 = .ok (.iconst 0, 1) := by decide +kernel
theorem d_Net_addGate_14 : decode b_Net_addGate 14 = .ok (.iload_n 1, 1) := by decide +kernel
theorem d_Net_addGate_15 : decode b_Net_addGate 15 = .ok (.invokestatic 53, 3) := by decide +kernel
theorem d_Net_addGate_18 : decode b_Net_addGate 18 = .ok (.ifCond .eq 7, 3) := by decide +kernel
theorem d_Net_addGate_21 : decode b_Net_addGate 21 = .ok (.iload_n 3, 1) := by decide +kernel
theorem d_Net_addGate_22 : decode b_Net_addGate 22 = .ok (.goto 4, 3) := by decide +kernel
theorem d_Net_addGate_25 : decode b_Net_addGate 25 = .ok (.iconst 0, 1) := by decide +kernel
theorem d_Net_addGate_26 : decode b_Net_addGate 26 = .ok (.invokevirtual 56, 3) := by decide +kernel
theorem d_Net_addGate_29 : decode b_Net_addGate 29 = .ok (.ireturn, 1) := by decide +kernel
theorem d_Net_isState_0 : decode b_Net_isState 0 = .ok (.aload_n 0, 1) := by decide +kernel
theorem d_Net_isState_1 : decode b_Net_isState 1 = .ok (.iload_n 1, 1) := by decide +kernel
theorem d_Net_isState_2 : decode b_Net_isState 2 = .ok (.invokevirtual 46, 3) := by decide +kernel
theorem d_Net_isState_5 : decode b_Net_isState 5 = .ok (.ifCond .eq 18, 3) := by decide +kernel
theorem d_Net_isState_8 : decode b_Net_isState 8 = .ok (.aload_n 0, 1) := by decide +kernel
theorem d_Net_isState_9 : decode b_Net_isState 9 = .ok (.getfield 11, 3) := by decide +kernel
theorem d_Net_isState_12 : decode b_Net_isState 12 = .ok (.iload_n 1, 1) := by decide +kernel
theorem d_Net_isState_13 : decode b_Net_isState 13 = .ok (.iaload, 1) := by decide +kernel
theorem d_Net_isState_14 : decode b_Net_isState 14 = .ok (.bipush 7, 2) := by decide +kernel
theorem d_Net_isState_16 : decode b_Net_isState 16 = .ok (.if_icmp .ne 7, 3) := by decide +kernel
theorem d_Net_isState_19 : decode b_Net_isState 19 = .ok (.iconst 1, 1) := by decide +kernel
theorem d_Net_isState_20 : decode b_Net_isState 20 = .ok (.goto 4, 3) := by decide +kernel
theorem d_Net_isState_23 : decode b_Net_isState 23 = .ok (.iconst 0, 1) := by decide +kernel
theorem d_Net_isState_24 : decode b_Net_isState 24 = .ok (.ireturn, 1) := by decide +kernel
theorem d_Net_changeNext_0 : decode b_Net_changeNext 0 = .ok (.aload_n 0, 1) := by decide +kernel
theorem d_Net_changeNext_1 : decode b_Net_changeNext 1 = .ok (.getfield 15, 3) := by decide +kernel
theorem d_Net_changeNext_4 : decode b_Net_changeNext 4 = .ok (.iload_n 1, 1) := by decide +kernel
theorem d_Net_changeNext_5 : decode b_Net_changeNext 5 = .ok (.iaload, 1) := by decide +kernel
theorem d_Net_changeNext_6 : decode b_Net_changeNext 6 = .ok (.istore_n 3, 1) := by decide +kernel
theorem d_Net_changeNext_7 : decode b_Net_changeNext 7 = .ok (.aload_n 0, 1) := by decide +kernel
theorem d_Net_changeNext_8 : decode b_Net_changeNext 8 = .ok (.getfield 21, 3) := by decide +kernel
theorem d_Net_changeNext_11 : decode b_Net_changeNext 11 = .ok (.iload_n 3, 1) := by decide +kernel
theorem d_Net_changeNext_12 : decode b_Net_changeNext 12 = .ok (.iaload, 1) := by decide +kernel
theorem d_Net_changeNext_13 : decode b_Net_changeNext 13 = .ok (.istore 4, 2) := by decide +kernel
theorem d_Net_changeNext_15 : decode b_Net_changeNext 15 = .ok (.aload_n 0, 1) := by decide +kernel
theorem d_Net_changeNext_16 : decode b_Net_changeNext 16 = .ok (.getfield 21, 3) := by decide +kernel
theorem d_Net_changeNext_19 : decode b_Net_changeNext 19 = .ok (.iload_n 3, 1) := by decide +kernel
theorem d_Net_changeNext_20 : decode b_Net_changeNext 20 = .ok (.iload_n 2, 1) := by decide +kernel
theorem d_Net_changeNext_21 : decode b_Net_changeNext 21 = .ok (.iastore, 1) := by decide +kernel
theorem d_Net_changeNext_22 : decode b_Net_changeNext 22 = .ok (.iload 4, 2) := by decide +kernel
theorem d_Net_changeNext_24 : decode b_Net_changeNext 24 = .ok (.ireturn, 1) := by decide +kernel
theorem d_Net_hasAllPairs_0 : decode b_Net_hasAllPairs 0 = .ok (.aload_n 0, 1) := by decide +kernel
theorem d_Net_hasAllPairs_1 : decode b_Net_hasAllPairs 1 = .ok (.getfield 43, 3) := by decide +kernel
theorem d_Net_hasAllPairs_4 : decode b_Net_hasAllPairs 4 = .ok (.bipush 16, 2) := by decide +kernel
theorem d_Net_hasAllPairs_6 : decode b_Net_hasAllPairs 6 = .ok (.if_icmp .lt 7, 3) := by decide +kernel
theorem d_Net_hasAllPairs_9 : decode b_Net_hasAllPairs 9 = .ok (.iconst 1, 1) := by decide +kernel
theorem d_Net_hasAllPairs_10 : decode b_Net_hasAllPairs 10 = .ok (.goto 4, 3) := by decide +kernel
theorem d_Net_hasAllPairs_13 : decode b_Net_hasAllPairs 13 = .ok (.iconst 0, 1) := by decide +kernel
theorem d_Net_hasAllPairs_14 : decode b_Net_hasAllPairs 14 = .ok (.ireturn, 1) := by decide +kernel
theorem d_Net_addPair_0 : decode b_Net_addPair 0 = .ok (.aload_n 0, 1) := by decide +kernel
theorem d_Net_addPair_1 : decode b_Net_addPair 1 = .ok (.getfield 24, 3) := by decide +kernel
theorem d_Net_addPair_4 : decode b_Net_addPair 4 = .ok (.aload_n 0, 1) := by decide +kernel
theorem d_Net_addPair_5 : decode b_Net_addPair 5 = .ok (.getfield 43, 3) := by decide +kernel
theorem d_Net_addPair_8 : decode b_Net_addPair 8 = .ok (.iload_n 1, 1) := by decide +kernel
theorem d_Net_addPair_9 : decode b_Net_addPair 9 = .ok (.iastore, 1) := by decide +kernel
theorem d_Net_addPair_10 : decode b_Net_addPair 10 = .ok (.aload_n 0, 1) := by decide +kernel
theorem d_Net_addPair_11 : decode b_Net_addPair 11 = .ok (.getfield 27, 3) := by decide +kernel
theorem d_Net_addPair_14 : decode b_Net_addPair 14 = .ok (.aload_n 0, 1) := by decide +kernel
theorem d_Net_addPair_15 : decode b_Net_addPair 15 = .ok (.getfield 43, 3) := by decide +kernel
theorem d_Net_addPair_18 : decode b_Net_addPair 18 = .ok (.iload_n 2, 1) := by decide +kernel
theorem d_Net_addPair_19 : decode b_Net_addPair 19 = .ok (.iastore, 1) := by decide +kernel
theorem d_Net_addPair_20 : decode b_Net_addPair 20 = .ok (.aload_n 0, 1) := by decide +kernel
theorem d_Net_addPair_21 : decode b_Net_addPair 21 = .ok (.dup, 1) := by decide +kernel
theorem d_Net_addPair_22 : decode b_Net_addPair 22 = .ok (.getfield 43, 3) := by decide +kernel
theorem d_Net_addPair_25 : decode b_Net_addPair 25 = .ok (.iconst 1, 1) := by decide +kernel
theorem d_Net_addPair_26 : decode b_Net_addPair 26 = .ok (.iadd, 1) := by decide +kernel
theorem d_Net_addPair_27 : decode b_Net_addPair 27 = .ok (.putfield 43, 3) := by decide +kernel
theorem d_Net_addPair_30 : decode b_Net_addPair 30 = .ok (.return_, 1) := by decide +kernel
theorem d_Net_leastDifferingWord_0 : decode b_Net_leastDifferingWord 0 = .ok (.iconst 0, 1) := by decide +kernel
theorem d_Net_leastDifferingWord_1 : decode b_Net_leastDifferingWord 1 = .ok (.istore_n 2, 1) := by decide +kernel
theorem d_Net_leastDifferingWord_2 : decode b_Net_leastDifferingWord 2 = .ok (.iconst 0, 1) := by decide +kernel
theorem d_Net_leastDifferingWord_3 : decode b_Net_leastDifferingWord 3 = .ok (.istore_n 3, 1) := by decide +kernel
theorem d_Net_leastDifferingWord_4 : decode b_Net_leastDifferingWord 4 = .ok (.iload_n 3, 1) := by decide +kernel
theorem d_Net_leastDifferingWord_5 : decode b_Net_leastDifferingWord 5 = .ok (.aload_n 0, 1) := by decide +kernel
theorem d_Net_leastDifferingWord_6 : decode b_Net_leastDifferingWord 6 = .ok (.getfield 43, 3) := by decide +kernel
theorem d_Net_leastDifferingWord_9 : decode b_Net_leastDifferingWord 9 = .ok (.if_icmp .ge 29, 3) := by decide +kernel
theorem d_Net_leastDifferingWord_12 : decode b_Net_leastDifferingWord 12 = .ok (.iload_n 2, 1) := by decide +kernel
theorem d_Net_leastDifferingWord_13 : decode b_Net_leastDifferingWord 13 = .ok (.aload_n 1, 1) := by decide +kernel
theorem d_Net_leastDifferingWord_14 : decode b_Net_leastDifferingWord 14 = .ok (.aload_n 0, 1) := by decide +kernel
theorem d_Net_leastDifferingWord_15 : decode b_Net_leastDifferingWord 15 = .ok (.getfield 24, 3) := by decide +kernel
theorem d_Net_leastDifferingWord_18 : decode b_Net_leastDifferingWord 18 = .ok (.iload_n 3, 1) := by decide +kernel
theorem d_Net_leastDifferingWord_19 : decode b_Net_leastDifferingWord 19 = .ok (.iaload, 1) := by decide +kernel
theorem d_Net_leastDifferingWord_20 : decode b_Net_leastDifferingWord 20 = .ok (.iaload, 1) := by decide +kernel
theorem d_Net_leastDifferingWord_21 : decode b_Net_leastDifferingWord 21 = .ok (.aload_n 1, 1) := by decide +kernel
theorem d_Net_leastDifferingWord_22 : decode b_Net_leastDifferingWord 22 = .ok (.aload_n 0, 1) := by decide +kernel
theorem d_Net_leastDifferingWord_23 : decode b_Net_leastDifferingWord 23 = .ok (.getfield 27, 3) := by decide +kernel
theorem d_Net_leastDifferingWord_26 : decode b_Net_leastDifferingWord 26 = .ok (.iload_n 3, 1) := by decide +kernel
theorem d_Net_leastDifferingWord_27 : decode b_Net_leastDifferingWord 27 = .ok (.iaload, 1) := by decide +kernel
theorem d_Net_leastDifferingWord_28 : decode b_Net_leastDifferingWord 28 = .ok (.iaload, 1) := by decide +kernel
theorem d_Net_leastDifferingWord_29 : decode b_Net_leastDifferingWord 29 = .ok (.ixor, 1) := by decide +kernel
theorem d_Net_leastDifferingWord_30 : decode b_Net_leastDifferingWord 30 = .ok (.ior, 1) := by decide +kernel
theorem d_Net_leastDifferingWord_31 : decode b_Net_leastDifferingWord 31 = .ok (.istore_n 2, 1) := by decide +kernel
theorem d_Net_leastDifferingWord_32 : decode b_Net_leastDifferingWord 32 = .ok (.iinc 3 1, 3) := by decide +kernel
theorem d_Net_leastDifferingWord_35 : decode b_Net_leastDifferingWord 35 = .ok (.goto (-31), 3) := by decide +kernel
theorem d_Net_leastDifferingWord_38 : decode b_Net_leastDifferingWord 38 = .ok (.iconst 0, 1) := by decide +kernel
theorem d_Net_leastDifferingWord_39 : decode b_Net_leastDifferingWord 39 = .ok (.istore_n 3, 1) := by decide +kernel
theorem d_Net_leastDifferingWord_40 : decode b_Net_leastDifferingWord 40 = .ok (.iload_n 3, 1) := by decide +kernel
theorem d_Net_leastDifferingWord_41 : decode b_Net_leastDifferingWord 41 = .ok (.aload_n 0, 1) := by decide +kernel
theorem d_Net_leastDifferingWord_42 : decode b_Net_leastDifferingWord 42 = .ok (.getfield 34, 3) := by decide +kernel
theorem d_Net_leastDifferingWord_45 : decode b_Net_leastDifferingWord 45 = .ok (.if_icmp .ge 19, 3) := by decide +kernel
theorem d_Net_leastDifferingWord_48 : decode b_Net_leastDifferingWord 48 = .ok (.iload_n 2, 1) := by decide +kernel
theorem d_Net_leastDifferingWord_49 : decode b_Net_leastDifferingWord 49 = .ok (.iload_n 3, 1) := by decide +kernel
theorem d_Net_leastDifferingWord_50 : decode b_Net_leastDifferingWord 50 = .ok (.ishr, 1) := by decide +kernel
theorem d_Net_leastDifferingWord_51 : decode b_Net_leastDifferingWord 51 = .ok (.iconst 1, 1) := by decide +kernel
theorem d_Net_leastDifferingWord_52 : decode b_Net_leastDifferingWord 52 = .ok (.iand, 1) := by decide +kernel
theorem d_Net_leastDifferingWord_53 : decode b_Net_leastDifferingWord 53 = .ok (.ifCond .eq 5, 3) := by decide +kernel
theorem d_Net_leastDifferingWord_56 : decode b_Net_leastDifferingWord 56 = .ok (.iload_n 3, 1) := by decide +kernel
theorem d_Net_leastDifferingWord_57 : decode b_Net_leastDifferingWord 57 = .ok (.ireturn, 1) := by decide +kernel
theorem d_Net_leastDifferingWord_58 : decode b_Net_leastDifferingWord 58 = .ok (.iinc 3 1, 3) := by decide +kernel
theorem d_Net_leastDifferingWord_61 : decode b_Net_leastDifferingWord 61 = .ok (.goto (-21), 3) := by decide +kernel
theorem d_Net_leastDifferingWord_64 : decode b_Net_leastDifferingWord 64 = .ok (.iconst (-1), 1) := by decide +kernel
theorem d_Net_leastDifferingWord_65 : decode b_Net_leastDifferingWord 65 = .ok (.ireturn, 1) := by decide +kernel
theorem d_Hand_truthOf_0 : decode b_Hand_truthOf 0 = .ok (.aload_n 0, 1) := by decide +kernel
theorem d_Hand_truthOf_1 : decode b_Hand_truthOf 1 = .ok (.getfield 11, 3) := by decide +kernel
theorem d_Hand_truthOf_4 : decode b_Hand_truthOf 4 = .ok (.iload_n 1, 1) := by decide +kernel
theorem d_Hand_truthOf_5 : decode b_Hand_truthOf 5 = .ok (.iaload, 1) := by decide +kernel
theorem d_Hand_truthOf_6 : decode b_Hand_truthOf 6 = .ok (.aload_n 0, 1) := by decide +kernel
theorem d_Hand_truthOf_7 : decode b_Hand_truthOf 7 = .ok (.getfield 31, 3) := by decide +kernel
theorem d_Hand_truthOf_10 : decode b_Hand_truthOf 10 = .ok (.ishr, 1) := by decide +kernel
theorem d_Hand_truthOf_11 : decode b_Hand_truthOf 11 = .ok (.iconst 1, 1) := by decide +kernel
theorem d_Hand_truthOf_12 : decode b_Hand_truthOf 12 = .ok (.iand, 1) := by decide +kernel
theorem d_Hand_truthOf_13 : decode b_Hand_truthOf 13 = .ok (.ifCond .eq 7, 3) := by decide +kernel
theorem d_Hand_truthOf_16 : decode b_Hand_truthOf 16 = .ok (.iconst 1, 1) := by decide +kernel
theorem d_Hand_truthOf_17 : decode b_Hand_truthOf 17 = .ok (.goto 4, 3) := by decide +kernel
theorem d_Hand_truthOf_20 : decode b_Hand_truthOf 20 = .ok (.iconst 0, 1) := by decide +kernel
theorem d_Hand_truthOf_21 : decode b_Hand_truthOf 21 = .ok (.ireturn, 1) := by decide +kernel
end
section
-- ===== decode rows =====
theorem d_Hunt_init_0 : decode b_Hunt_init 0 = .ok (.aload_n 0, 1) := by decide +kernel
theorem d_Hunt_init_1 : decode b_Hunt_init 1 = .ok (.invokespecial 5, 3) := by decide +kernel
theorem d_Hunt_init_4 : decode b_Hunt_init 4 = .ok (.aload_n 0, 1) := by decide +kernel
theorem d_Hunt_init_5 : decode b_Hunt_init 5 = .ok (.bipush 100, 2) := by decide +kernel
theorem d_Hunt_init_7 : decode b_Hunt_init 7 = .ok (.newarray .int, 2) := by decide +kernel
theorem d_Hunt_init_9 : decode b_Hunt_init 9 = .ok (.putfield 11, 3) := by decide +kernel
theorem d_Hunt_init_12 : decode b_Hunt_init 12 = .ok (.aload_n 0, 1) := by decide +kernel
theorem d_Hunt_init_13 : decode b_Hunt_init 13 = .ok (.sipush 16384, 3) := by decide +kernel
theorem d_Hunt_init_16 : decode b_Hunt_init 16 = .ok (.newarray .int, 2) := by decide +kernel
theorem d_Hunt_init_18 : decode b_Hunt_init 18 = .ok (.putfield 17, 3) := by decide +kernel
theorem d_Hunt_init_21 : decode b_Hunt_init 21 = .ok (.aload_n 0, 1) := by decide +kernel
theorem d_Hunt_init_22 : decode b_Hunt_init 22 = .ok (.sipush 16384, 3) := by decide +kernel
theorem d_Hunt_init_25 : decode b_Hunt_init 25 = .ok (.newarray .int, 2) := by decide +kernel
theorem d_Hunt_init_27 : decode b_Hunt_init 27 = .ok (.putfield 20, 3) := by decide +kernel
theorem d_Hunt_init_30 : decode b_Hunt_init 30 = .ok (.aload_n 0, 1) := by decide +kernel
theorem d_Hunt_init_31 : decode b_Hunt_init 31 = .ok (.sipush 16386, 3) := by decide +kernel
theorem d_Hunt_init_34 : decode b_Hunt_init 34 = .ok (.newarray .int, 2) := by decide +kernel
theorem d_Hunt_init_36 : decode b_Hunt_init 36 = .ok (.putfield 23, 3) := by decide +kernel
theorem d_Hunt_init_39 : decode b_Hunt_init 39 = .ok (.aload_n 0, 1) := by decide +kernel
theorem d_Hunt_init_40 : decode b_Hunt_init 40 = .ok (.sipush 16384, 3) := by decide +kernel
theorem d_Hunt_init_43 : decode b_Hunt_init 43 = .ok (.newarray .int, 2) := by decide +kernel
theorem d_Hunt_init_45 : decode b_Hunt_init 45 = .ok (.putfield 26, 3) := by decide +kernel
theorem d_Hunt_init_48 : decode b_Hunt_init 48 = .ok (.aload_n 0, 1) := by decide +kernel
theorem d_Hunt_init_49 : decode b_Hunt_init 49 = .ok (.sipush 512, 3) := by decide +kernel
theorem d_Hunt_init_52 : decode b_Hunt_init 52 = .ok (.newarray .int, 2) := by decide +kernel
theorem d_Hunt_init_54 : decode b_Hunt_init 54 = .ok (.putfield 29, 3) := by decide +kernel
theorem d_Hunt_init_57 : decode b_Hunt_init 57 = .ok (.aload_n 0, 1) := by decide +kernel
theorem d_Hunt_init_58 : decode b_Hunt_init 58 = .ok (.iconst (-1), 1) := by decide +kernel
theorem d_Hunt_init_59 : decode b_Hunt_init 59 = .ok (.putfield 32, 3) := by decide +kernel
theorem d_Hunt_init_62 : decode b_Hunt_init 62 = .ok (.aload_n 0, 1) := by decide +kernel
theorem d_Hunt_init_63 : decode b_Hunt_init 63 = .ok (.aload_n 1, 1) := by decide +kernel
theorem d_Hunt_init_64 : decode b_Hunt_init 64 = .ok (.putfield 36, 3) := by decide +kernel
theorem d_Hunt_init_67 : decode b_Hunt_init 67 = .ok (.return_, 1) := by decide +kernel
theorem d_Hunt_programWord_0 : decode b_Hunt_programWord 0 = .ok (.aload_n 0, 1) := by decide +kernel
theorem d_Hunt_programWord_1 : decode b_Hunt_programWord 1 = .ok (.getfield 26, 3) := by decide +kernel
theorem d_Hunt_programWord_4 : decode b_Hunt_programWord 4 = .ok (.iload_n 1, 1) := by decide +kernel
theorem d_Hunt_programWord_5 : decode b_Hunt_programWord 5 = .ok (.iaload, 1) := by decide +kernel
theorem d_Hunt_programWord_6 : decode b_Hunt_programWord 6 = .ok (.ireturn, 1) := by decide +kernel
theorem d_Hunt_forget_0 : decode b_Hunt_forget 0 = .ok (.aload_n 0, 1) := by decide +kernel
theorem d_Hunt_forget_1 : decode b_Hunt_forget 1 = .ok (.iconst 0, 1) := by decide +kernel
theorem d_Hunt_forget_2 : decode b_Hunt_forget 2 = .ok (.putfield 40, 3) := by decide +kernel
theorem d_Hunt_forget_5 : decode b_Hunt_forget 5 = .ok (.aload_n 0, 1) := by decide +kernel
theorem d_Hunt_forget_6 : decode b_Hunt_forget 6 = .ok (.iconst 0, 1) := by decide +kernel
theorem d_Hunt_forget_7 : decode b_Hunt_forget 7 = .ok (.putfield 43, 3) := by decide +kernel
theorem d_Hunt_forget_10 : decode b_Hunt_forget 10 = .ok (.aload_n 0, 1) := by decide +kernel
theorem d_Hunt_forget_11 : decode b_Hunt_forget 11 = .ok (.iconst (-1), 1) := by decide +kernel
theorem d_Hunt_forget_12 : decode b_Hunt_forget 12 = .ok (.putfield 32, 3) := by decide +kernel
theorem d_Hunt_forget_15 : decode b_Hunt_forget 15 = .ok (.return_, 1) := by decide +kernel
theorem d_Hunt_goOn_0 : decode b_Hunt_goOn 0 = .ok (.aload_n 0, 1) := by decide +kernel
theorem d_Hunt_goOn_1 : decode b_Hunt_goOn 1 = .ok (.getfield 40, 3) := by decide +kernel
theorem d_Hunt_goOn_4 : decode b_Hunt_goOn 4 = .ok (.ifCond .ne 7, 3) := by decide +kernel
theorem d_Hunt_goOn_7 : decode b_Hunt_goOn 7 = .ok (.aload_n 0, 1) := by decide +kernel
theorem d_Hunt_goOn_8 : decode b_Hunt_goOn 8 = .ok (.invokevirtual 46, 3) := by decide +kernel
theorem d_Hunt_goOn_11 : decode b_Hunt_goOn 11 = .ok (.aload_n 0, 1) := by decide +kernel
theorem d_Hunt_goOn_12 : decode b_Hunt_goOn 12 = .ok (.getfield 43, 3) := by decide +kernel
theorem d_Hunt_goOn_15 : decode b_Hunt_goOn 15 = .ok (.istore_n 2, 1) := by decide +kernel
theorem d_Hunt_goOn_16 : decode b_Hunt_goOn 16 = .ok (.iload_n 2, 1) := by decide +kernel
theorem d_Hunt_goOn_17 : decode b_Hunt_goOn 17 = .ok (.iload_n 1, 1) := by decide +kernel
theorem d_Hunt_goOn_18 : decode b_Hunt_goOn 18 = .ok (.if_icmp .ge 28, 3) := by decide +kernel
theorem d_Hunt_goOn_21 : decode b_Hunt_goOn 21 = .ok (.aload_n 0, 1) := by decide +kernel
theorem d_Hunt_goOn_22 : decode b_Hunt_goOn 22 = .ok (.getfield 32, 3) := by decide +kernel
theorem d_Hunt_goOn_25 : decode b_Hunt_goOn 25 = .ok (.iconst (-1), 1) := by decide +kernel
theorem d_Hunt_goOn_26 : decode b_Hunt_goOn 26 = .ok (.if_icmp .ne 20, 3) := by decide +kernel
theorem d_Hunt_goOn_29 : decode b_Hunt_goOn 29 = .ok (.aload_n 0, 1) := by decide +kernel
theorem d_Hunt_goOn_30 : decode b_Hunt_goOn 30 = .ok (.invokevirtual 49, 3) := by decide +kernel
theorem d_Hunt_goOn_33 : decode b_Hunt_goOn 33 = .ok (.ifCond .eq 13, 3) := by decide +kernel
theorem d_Hunt_goOn_36 : decode b_Hunt_goOn 36 = .ok (.aload_n 0, 1) := by decide +kernel
theorem d_Hunt_goOn_37 : decode b_Hunt_goOn 37 = .ok (.invokevirtual 53, 3) := by decide +kernel
theorem d_Hunt_goOn_40 : decode b_Hunt_goOn 40 = .ok (.iinc 2 1, 3) := by decide +kernel
theorem d_Hunt_goOn_43 : decode b_Hunt_goOn 43 = .ok (.goto (-27), 3) := by decide +kernel
theorem d_Hunt_goOn_46 : decode b_Hunt_goOn 46 = .ok (.return_, 1) := by decide +kernel
theorem d_Hunt_start_0 : decode b_Hunt_start 0 = .ok (.aload_n 0, 1) := by decide +kernel
theorem d_Hunt_start_1 : decode b_Hunt_start 1 = .ok (.getfield 29, 3) := by decide +kernel
theorem d_Hunt_start_4 : decode b_Hunt_start 4 = .ok (.iconst 0, 1) := by decide +kernel
theorem d_Hunt_start_5 : decode b_Hunt_start 5 = .ok (.invokestatic 56, 3) := by decide +kernel
theorem d_Hunt_start_8 : decode b_Hunt_start 8 = .ok (.aload_n 0, 1) := by decide +kernel
theorem d_Hunt_start_9 : decode b_Hunt_start 9 = .ok (.aload_n 0, 1) := by decide +kernel
theorem d_Hunt_start_10 : decode b_Hunt_start 10 = .ok (.getfield 36, 3) := by decide +kernel
theorem d_Hunt_start_13 : decode b_Hunt_start 13 = .ok (.getfield 62, 3) := by decide +kernel
theorem d_Hunt_start_16 : decode b_Hunt_start 16 = .ok (.iconst 0, 1) := by decide +kernel
theorem d_Hunt_start_17 : decode b_Hunt_start 17 = .ok (.iconst 0, 1) := by decide +kernel
theorem d_Hunt_start_18 : decode b_Hunt_start 18 = .ok (.invokevirtual 65, 3) := by decide +kernel
theorem d_Hunt_start_21 : decode b_Hunt_start 21 = .ok (.pop, 1) := by decide +kernel
theorem d_Hunt_start_22 : decode b_Hunt_start 22 = .ok (.aload_n 0, 1) := by decide +kernel
theorem d_Hunt_start_23 : decode b_Hunt_start 23 = .ok (.iconst 1, 1) := by decide +kernel
theorem d_Hunt_start_24 : decode b_Hunt_start 24 = .ok (.putfield 40, 3) := by decide +kernel
theorem d_Hunt_start_27 : decode b_Hunt_start 27 = .ok (.aload_n 0, 1) := by decide +kernel
theorem d_Hunt_start_28 : decode b_Hunt_start 28 = .ok (.getfield 23, 3) := by decide +kernel
theorem d_Hunt_start_31 : decode b_Hunt_start 31 = .ok (.iconst 0, 1) := by decide +kernel
theorem d_Hunt_start_32 : decode b_Hunt_start 32 = .ok (.iconst 0, 1) := by decide +kernel
theorem d_Hunt_start_33 : decode b_Hunt_start 33 = .ok (.iastore, 1) := by decide +kernel
theorem d_Hunt_start_34 : decode b_Hunt_start 34 = .ok (.aload_n 0, 1) := by decide +kernel
theorem d_Hunt_start_35 : decode b_Hunt_start 35 = .ok (.getfield 23, 3) := by decide +kernel
theorem d_Hunt_start_38 : decode b_Hunt_start 38 = .ok (.iconst 1, 1) := by decide +kernel
theorem d_Hunt_start_39 : decode b_Hunt_start 39 = .ok (.iconst 1, 1) := by decide +kernel
theorem d_Hunt_start_40 : decode b_Hunt_start 40 = .ok (.iastore, 1) := by decide +kernel
theorem d_Hunt_start_41 : decode b_Hunt_start 41 = .ok (.return_, 1) := by decide +kernel
theorem d_Hunt_keepIfNew_0 : decode b_Hunt_keepIfNew 0 = .ok (.iconst 1, 1) := by decide +kernel
theorem d_Hunt_keepIfNew_1 : decode b_Hunt_keepIfNew 1 = .ok (.iload_n 1, 1) := by decide +kernel
theorem d_Hunt_keepIfNew_2 : decode b_Hunt_keepIfNew 2 = .ok (.bipush 31, 2) := by decide +kernel
theorem d_Hunt_keepIfNew_4 : decode b_Hunt_keepIfNew 4 = .ok (.iand, 1) := by decide +kernel
theorem d_Hunt_keepIfNew_5 : decode b_Hunt_keepIfNew 5 = .ok (.ishl, 1) := by decide +kernel
theorem d_Hunt_keepIfNew_6 : decode b_Hunt_keepIfNew 6 = .ok (.istore 4, 2) := by decide +kernel
theorem d_Hunt_keepIfNew_8 : decode b_Hunt_keepIfNew 8 = .ok (.aload_n 0, 1) := by decide +kernel
theorem d_Hunt_keepIfNew_9 : decode b_Hunt_keepIfNew 9 = .ok (.getfield 29, 3) := by decide +kernel
theorem d_Hunt_keepIfNew_12 : decode b_Hunt_keepIfNew 12 = .ok (.iload_n 1, 1) := by decide +kernel
theorem d_Hunt_keepIfNew_13 : decode b_Hunt_keepIfNew 13 = .ok (.iconst 5, 1) := by decide +kernel
theorem d_Hunt_keepIfNew_14 : decode b_Hunt_keepIfNew 14 = .ok (.ishr, 1) := by decide +kernel
theorem d_Hunt_keepIfNew_15 : decode b_Hunt_keepIfNew 15 = .ok (.iaload, 1) := by decide +kernel
theorem d_Hunt_keepIfNew_16 : decode b_Hunt_keepIfNew 16 = .ok (.iload 4, 2) := by decide +kernel
theorem d_Hunt_keepIfNew_18 : decode b_Hunt_keepIfNew 18 = .ok (.iand, 1) := by decide +kernel
theorem d_Hunt_keepIfNew_19 : decode b_Hunt_keepIfNew 19 = .ok (.ifCond .eq 5, 3) := by decide +kernel
theorem d_Hunt_keepIfNew_22 : decode b_Hunt_keepIfNew 22 = .ok (.iconst 0, 1) := by decide +kernel
theorem d_Hunt_keepIfNew_23 : decode b_Hunt_keepIfNew 23 = .ok (.ireturn, 1) := by decide +kernel
theorem d_Hunt_keepIfNew_24 : decode b_Hunt_keepIfNew 24 = .ok (.aload_n 0, 1) := by decide +kernel
theorem d_Hunt_keepIfNew_25 : decode b_Hunt_keepIfNew 25 = .ok (.getfield 29, 3) := by decide +kernel
theorem d_Hunt_keepIfNew_28 : decode b_Hunt_keepIfNew 28 = .ok (.iload_n 1, 1) := by decide +kernel
theorem d_Hunt_keepIfNew_29 : decode b_Hunt_keepIfNew 29 = .ok (.iconst 5, 1) := by decide +kernel
theorem d_Hunt_keepIfNew_30 : decode b_Hunt_keepIfNew 30 = .ok (.ishr, 1) := by decide +kernel
theorem d_Hunt_keepIfNew_31 : decode b_Hunt_keepIfNew 31 = .ok (.dup2, 1) := by decide +kernel
theorem d_Hunt_keepIfNew_32 : decode b_Hunt_keepIfNew 32 = .ok (.iaload, 1) := by decide +kernel
theorem d_Hunt_keepIfNew_33 : decode b_Hunt_keepIfNew 33 = .ok (.iload 4, 2) := by decide +kernel
theorem d_Hunt_keepIfNew_35 : decode b_Hunt_keepIfNew 35 = .ok (.ior, 1) := by decide +kernel
theorem d_Hunt_keepIfNew_36 : decode b_Hunt_keepIfNew 36 = .ok (.iastore, 1) := by decide +kernel
theorem d_Hunt_keepIfNew_37 : decode b_Hunt_keepIfNew 37 = .ok (.aload_n 0, 1) := by decide +kernel
theorem d_Hunt_keepIfNew_38 : decode b_Hunt_keepIfNew 38 = .ok (.getfield 17, 3) := by decide +kernel
theorem d_Hunt_keepIfNew_41 : decode b_Hunt_keepIfNew 41 = .ok (.iload_n 2, 1) := by decide +kernel
theorem d_Hunt_keepIfNew_42 : decode b_Hunt_keepIfNew 42 = .ok (.iload_n 1, 1) := by decide +kernel
theorem d_Hunt_keepIfNew_43 : decode b_Hunt_keepIfNew 43 = .ok (.iastore, 1) := by decide +kernel
theorem d_Hunt_keepIfNew_44 : decode b_Hunt_keepIfNew 44 = .ok (.aload_n 0, 1) := by decide +kernel
theorem d_Hunt_keepIfNew_45 : decode b_Hunt_keepIfNew 45 = .ok (.getfield 20, 3) := by decide +kernel
theorem d_Hunt_keepIfNew_48 : decode b_Hunt_keepIfNew 48 = .ok (.iload_n 2, 1) := by decide +kernel
theorem d_Hunt_keepIfNew_49 : decode b_Hunt_keepIfNew 49 = .ok (.iload_n 3, 1) := by decide +kernel
theorem d_Hunt_keepIfNew_50 : decode b_Hunt_keepIfNew 50 = .ok (.iastore, 1) := by decide +kernel
theorem d_Hunt_keepIfNew_51 : decode b_Hunt_keepIfNew 51 = .ok (.iconst 1, 1) := by decide +kernel
theorem d_Hunt_keepIfNew_52 : decode b_Hunt_keepIfNew 52 = .ok (.ireturn, 1) := by decide +kernel
theorem d_Hunt_hasOpenLevel_0 : decode b_Hunt_hasOpenLevel 0 = .ok (.aload_n 0, 1) := by decide +kernel
theorem d_Hunt_hasOpenLevel_1 : decode b_Hunt_hasOpenLevel 1 = .ok (.aload_n 0, 1) := by decide +kernel
theorem d_Hunt_hasOpenLevel_2 : decode b_Hunt_hasOpenLevel 2 = .ok (.getfield 43, 3) := by decide +kernel
theorem d_Hunt_hasOpenLevel_5 : decode b_Hunt_hasOpenLevel 5 = .ok (.invokevirtual 69, 3) := by decide +kernel
theorem d_Hunt_hasOpenLevel_8 : decode b_Hunt_hasOpenLevel 8 = .ok (.ifCond .le 7, 3) := by decide +kernel
theorem d_Hunt_hasOpenLevel_11 : decode b_Hunt_hasOpenLevel 11 = .ok (.iconst 1, 1) := by decide +kernel
theorem d_Hunt_hasOpenLevel_12 : decode b_Hunt_hasOpenLevel 12 = .ok (.goto 4, 3) := by decide +kernel
theorem d_Hunt_hasOpenLevel_15 : decode b_Hunt_hasOpenLevel 15 = .ok (.iconst 0, 1) := by decide +kernel
theorem d_Hunt_hasOpenLevel_16 : decode b_Hunt_hasOpenLevel 16 = .ok (.ireturn, 1) := by decide +kernel
theorem d_Hunt_rowsOfLevel_0 : decode b_Hunt_rowsOfLevel 0 = .ok (.aload_n 0, 1) := by decide +kernel
theorem d_Hunt_rowsOfLevel_1 : decode b_Hunt_rowsOfLevel 1 = .ok (.getfield 40, 3) := by decide +kernel
theorem d_Hunt_rowsOfLevel_4 : decode b_Hunt_rowsOfLevel 4 = .ok (.ifCond .ne 7, 3) := by decide +kernel
theorem d_Hunt_rowsOfLevel_7 : decode b_Hunt_rowsOfLevel 7 = .ok (.iconst 0, 1) := by decide +kernel
theorem d_Hunt_rowsOfLevel_8 : decode b_Hunt_rowsOfLevel 8 = .ok (.goto 18, 3) := by decide +kernel
theorem d_Hunt_rowsOfLevel_11 : decode b_Hunt_rowsOfLevel 11 = .ok (.aload_n 0, 1) := by decide +kernel
theorem d_Hunt_rowsOfLevel_12 : decode b_Hunt_rowsOfLevel 12 = .ok (.getfield 23, 3) := by decide +kernel
theorem d_Hunt_rowsOfLevel_15 : decode b_Hunt_rowsOfLevel 15 = .ok (.iload_n 1, 1) := by decide +kernel
theorem d_Hunt_rowsOfLevel_16 : decode b_Hunt_rowsOfLevel 16 = .ok (.iconst 1, 1) := by decide +kernel
theorem d_Hunt_rowsOfLevel_17 : decode b_Hunt_rowsOfLevel 17 = .ok (.iadd, 1) := by decide +kernel
theorem d_Hunt_rowsOfLevel_18 : decode b_Hunt_rowsOfLevel 18 = .ok (.iaload, 1) := by decide +kernel
theorem d_Hunt_rowsOfLevel_19 : decode b_Hunt_rowsOfLevel 19 = .ok (.aload_n 0, 1) := by decide +kernel
theorem d_Hunt_rowsOfLevel_20 : decode b_Hunt_rowsOfLevel 20 = .ok (.getfield 23, 3) := by decide +kernel
theorem d_Hunt_rowsOfLevel_23 : decode b_Hunt_rowsOfLevel 23 = .ok (.iload_n 1, 1) := by decide +kernel
theorem d_Hunt_rowsOfLevel_24 : decode b_Hunt_rowsOfLevel 24 = .ok (.iaload, 1) := by decide +kernel
theorem d_Hunt_rowsOfLevel_25 : decode b_Hunt_rowsOfLevel 25 = .ok (.isub, 1) := by decide +kernel
theorem d_Hunt_rowsOfLevel_26 : decode b_Hunt_rowsOfLevel 26 = .ok (.ireturn, 1) := by decide +kernel
theorem d_Hunt_askLevel_0 : decode b_Hunt_askLevel 0 = .ok (.aload_n 0, 1) := by decide +kernel
theorem d_Hunt_askLevel_1 : decode b_Hunt_askLevel 1 = .ok (.getfield 40, 3) := by decide +kernel
theorem d_Hunt_askLevel_4 : decode b_Hunt_askLevel 4 = .ok (.istore_n 1, 1) := by decide +kernel
theorem d_Hunt_askLevel_5 : decode b_Hunt_askLevel 5 = .ok (.aload_n 0, 1) := by decide +kernel
theorem d_Hunt_askLevel_6 : decode b_Hunt_askLevel 6 = .ok (.getfield 23, 3) := by decide +kernel
theorem d_Hunt_askLevel_9 : decode b_Hunt_askLevel 9 = .ok (.aload_n 0, 1) := by decide +kernel
theorem d_Hunt_askLevel_10 : decode b_Hunt_askLevel 10 = .ok (.getfield 43, 3) := by decide +kernel
theorem d_Hunt_askLevel_13 : decode b_Hunt_askLevel 13 = .ok (.iaload, 1) := by decide +kernel
theorem d_Hunt_askLevel_14 : decode b_Hunt_askLevel 14 = .ok (.istore_n 2, 1) := by decide +kernel
theorem d_Hunt_askLevel_15 : decode b_Hunt_askLevel 15 = .ok (.iload_n 2, 1) := by decide +kernel
theorem d_Hunt_askLevel_16 : decode b_Hunt_askLevel 16 = .ok (.aload_n 0, 1) := by decide +kernel
theorem d_Hunt_askLevel_17 : decode b_Hunt_askLevel 17 = .ok (.getfield 40, 3) := by decide +kernel
theorem d_Hunt_askLevel_20 : decode b_Hunt_askLevel 20 = .ok (.if_icmp .ge 57, 3) := by decide +kernel
theorem d_Hunt_askLevel_23 : decode b_Hunt_askLevel 23 = .ok (.aload_n 0, 1) := by decide +kernel
theorem d_Hunt_askLevel_24 : decode b_Hunt_askLevel 24 = .ok (.getfield 36, 3) := by decide +kernel
theorem d_Hunt_askLevel_27 : decode b_Hunt_askLevel 27 = .ok (.aload_n 0, 1) := by decide +kernel
theorem d_Hunt_askLevel_28 : decode b_Hunt_askLevel 28 = .ok (.getfield 17, 3) := by decide +kernel
theorem d_Hunt_askLevel_31 : decode b_Hunt_askLevel 31 = .ok (.iload_n 2, 1) := by decide +kernel
theorem d_Hunt_askLevel_32 : decode b_Hunt_askLevel 32 = .ok (.iaload, 1) := by decide +kernel
theorem d_Hunt_askLevel_33 : decode b_Hunt_askLevel 33 = .ok (.aload_n 0, 1) := by decide +kernel
theorem d_Hunt_askLevel_34 : decode b_Hunt_askLevel 34 = .ok (.getfield 11, 3) := by decide +kernel
theorem d_Hunt_askLevel_37 : decode b_Hunt_askLevel 37 = .ok (.invokevirtual 73, 3) := by decide +kernel
theorem d_Hunt_askLevel_40 : decode b_Hunt_askLevel 40 = .ok (.aload_n 0, 1) := by decide +kernel
theorem d_Hunt_askLevel_41 : decode b_Hunt_askLevel 41 = .ok (.getfield 36, 3) := by decide +kernel
theorem d_Hunt_askLevel_44 : decode b_Hunt_askLevel 44 = .ok (.aload_n 0, 1) := by decide +kernel
theorem d_Hunt_askLevel_45 : decode b_Hunt_askLevel 45 = .ok (.getfield 11, 3) := by decide +kernel
theorem d_Hunt_askLevel_48 : decode b_Hunt_askLevel 48 = .ok (.invokevirtual 77, 3) := by decide +kernel
theorem d_Hunt_askLevel_51 : decode b_Hunt_askLevel 51 = .ok (.istore_n 3, 1) := by decide +kernel
theorem d_Hunt_askLevel_52 : decode b_Hunt_askLevel 52 = .ok (.iload_n 3, 1) := by decide +kernel
theorem d_Hunt_askLevel_53 : decode b_Hunt_askLevel 53 = .ok (.iconst (-1), 1) := by decide +kernel
theorem d_Hunt_askLevel_54 : decode b_Hunt_askLevel 54 = .ok (.if_icmp .eq 10, 3) := by decide +kernel
theorem d_Hunt_askLevel_57 : decode b_Hunt_askLevel 57 = .ok (.aload_n 0, 1) := by decide +kernel
theorem d_Hunt_askLevel_58 : decode b_Hunt_askLevel 58 = .ok (.iload_n 2, 1) := by decide +kernel
theorem d_Hunt_askLevel_59 : decode b_Hunt_askLevel 59 = .ok (.iload_n 3, 1) := by decide +kernel
theorem d_Hunt_askLevel_60 : decode b_Hunt_askLevel 60 = .ok (.invokevirtual 81, 3) := by decide +kernel
theorem d_Hunt_askLevel_63 : decode b_Hunt_askLevel 63 = .ok (.return_, 1) := by decide +kernel
theorem d_Hunt_askLevel_64 : decode b_Hunt_askLevel 64 = .ok (.aload_n 0, 1) := by decide +kernel
theorem d_Hunt_askLevel_65 : decode b_Hunt_askLevel 65 = .ok (.iload_n 2, 1) := by decide +kernel
theorem d_Hunt_askLevel_66 : decode b_Hunt_askLevel 66 = .ok (.iload_n 1, 1) := by decide +kernel
theorem d_Hunt_askLevel_67 : decode b_Hunt_askLevel 67 = .ok (.invokevirtual 85, 3) := by decide +kernel
theorem d_Hunt_askLevel_70 : decode b_Hunt_askLevel 70 = .ok (.istore_n 1, 1) := by decide +kernel
theorem d_Hunt_askLevel_71 : decode b_Hunt_askLevel 71 = .ok (.iinc 2 1, 3) := by decide +kernel
theorem d_Hunt_askLevel_74 : decode b_Hunt_askLevel 74 = .ok (.goto (-59), 3) := by decide +kernel
theorem d_Hunt_askLevel_77 : decode b_Hunt_askLevel 77 = .ok (.aload_n 0, 1) := by decide +kernel
theorem d_Hunt_askLevel_78 : decode b_Hunt_askLevel 78 = .ok (.dup, 1) := by decide +kernel
theorem d_Hunt_askLevel_79 : decode b_Hunt_askLevel 79 = .ok (.getfield 43, 3) := by decide +kernel
theorem d_Hunt_askLevel_82 : decode b_Hunt_askLevel 82 = .ok (.iconst 1, 1) := by decide +kernel
theorem d_Hunt_askLevel_83 : decode b_Hunt_askLevel 83 = .ok (.iadd, 1) := by decide +kernel
theorem d_Hunt_askLevel_84 : decode b_Hunt_askLevel 84 = .ok (.putfield 43, 3) := by decide +kernel
theorem d_Hunt_askLevel_87 : decode b_Hunt_askLevel 87 = .ok (.aload_n 0, 1) := by decide +kernel
theorem d_Hunt_askLevel_88 : decode b_Hunt_askLevel 88 = .ok (.iload_n 1, 1) := by decide +kernel
theorem d_Hunt_askLevel_89 : decode b_Hunt_askLevel 89 = .ok (.putfield 40, 3) := by decide +kernel
theorem d_Hunt_askLevel_92 : decode b_Hunt_askLevel 92 = .ok (.aload_n 0, 1) := by decide +kernel
theorem d_Hunt_askLevel_93 : decode b_Hunt_askLevel 93 = .ok (.getfield 23, 3) := by decide +kernel
theorem d_Hunt_askLevel_96 : decode b_Hunt_askLevel 96 = .ok (.aload_n 0, 1) := by decide +kernel
theorem d_Hunt_askLevel_97 : decode b_Hunt_askLevel 97 = .ok (.getfield 43, 3) := by decide +kernel
theorem d_Hunt_askLevel_100 : decode b_Hunt_askLevel 100 = .ok (.iconst 1, 1) := by decide +kernel
theorem d_Hunt_askLevel_101 : decode b_Hunt_askLevel 101 = .ok (.iadd, 1) := by decide +kernel
theorem d_Hunt_askLevel_102 : decode b_Hunt_askLevel 102 = .ok (.iload_n 1, 1) := by decide +kernel
theorem d_Hunt_askLevel_103 : decode b_Hunt_askLevel 103 = .ok (.iastore, 1) := by decide +kernel
theorem d_Hunt_askLevel_104 : decode b_Hunt_askLevel 104 = .ok (.return_, 1) := by decide +kernel
theorem d_Hunt_tellProgram_0 : decode b_Hunt_tellProgram 0 = .ok (.aload_n 0, 1) := by decide +kernel
theorem d_Hunt_tellProgram_1 : decode b_Hunt_tellProgram 1 = .ok (.getfield 26, 3) := by decide +kernel
theorem d_Hunt_tellProgram_4 : decode b_Hunt_tellProgram 4 = .ok (.aload_n 0, 1) := by decide +kernel
theorem d_Hunt_tellProgram_5 : decode b_Hunt_tellProgram 5 = .ok (.getfield 43, 3) := by decide +kernel
theorem d_Hunt_tellProgram_8 : decode b_Hunt_tellProgram 8 = .ok (.iload_n 2, 1) := by decide +kernel
theorem d_Hunt_tellProgram_9 : decode b_Hunt_tellProgram 9 = .ok (.iastore, 1) := by decide +kernel
theorem d_Hunt_tellProgram_10 : decode b_Hunt_tellProgram 10 = .ok (.iload_n 1, 1) := by decide +kernel
theorem d_Hunt_tellProgram_11 : decode b_Hunt_tellProgram 11 = .ok (.istore_n 3, 1) := by decide +kernel
theorem d_Hunt_tellProgram_12 : decode b_Hunt_tellProgram 12 = .ok (.aload_n 0, 1) := by decide +kernel
theorem d_Hunt_tellProgram_13 : decode b_Hunt_tellProgram 13 = .ok (.getfield 43, 3) := by decide +kernel
theorem d_Hunt_tellProgram_16 : decode b_Hunt_tellProgram 16 = .ok (.iconst 1, 1) := by decide +kernel
theorem d_Hunt_tellProgram_17 : decode b_Hunt_tellProgram 17 = .ok (.isub, 1) := by decide +kernel
theorem d_Hunt_tellProgram_18 : decode b_Hunt_tellProgram 18 = .ok (.istore 4, 2) := by decide +kernel
theorem d_Hunt_tellProgram_20 : decode b_Hunt_tellProgram 20 = .ok (.iload 4, 2) := by decide +kernel
theorem d_Hunt_tellProgram_22 : decode b_Hunt_tellProgram 22 = .ok (.ifCond .lt 34, 3) := by decide +kernel
theorem d_Hunt_tellProgram_25 : decode b_Hunt_tellProgram 25 = .ok (.aload_n 0, 1) := by decide +kernel
theorem d_Hunt_tellProgram_26 : decode b_Hunt_tellProgram 26 = .ok (.getfield 26, 3) := by decide +kernel
theorem d_Hunt_tellProgram_29 : decode b_Hunt_tellProgram 29 = .ok (.iload 4, 2) := by decide +kernel
theorem d_Hunt_tellProgram_31 : decode b_Hunt_tellProgram 31 = .ok (.aload_n 0, 1) := by decide +kernel
theorem d_Hunt_tellProgram_32 : decode b_Hunt_tellProgram 32 = .ok (.getfield 20, 3) := by decide +kernel
theorem d_Hunt_tellProgram_35 : decode b_Hunt_tellProgram 35 = .ok (.iload_n 3, 1) := by decide +kernel
theorem d_Hunt_tellProgram_36 : decode b_Hunt_tellProgram 36 = .ok (.iaload, 1) := by decide +kernel
theorem d_Hunt_tellProgram_37 : decode b_Hunt_tellProgram 37 = .ok (.bipush 15, 2) := by decide +kernel
theorem d_Hunt_tellProgram_39 : decode b_Hunt_tellProgram 39 = .ok (.iand, 1) := by decide +kernel
theorem d_Hunt_tellProgram_40 : decode b_Hunt_tellProgram 40 = .ok (.iastore, 1) := by decide +kernel
theorem d_Hunt_tellProgram_41 : decode b_Hunt_tellProgram 41 = .ok (.aload_n 0, 1) := by decide +kernel
theorem d_Hunt_tellProgram_42 : decode b_Hunt_tellProgram 42 = .ok (.getfield 20, 3) := by decide +kernel
theorem d_Hunt_tellProgram_45 : decode b_Hunt_tellProgram 45 = .ok (.iload_n 3, 1) := by decide +kernel
theorem d_Hunt_tellProgram_46 : decode b_Hunt_tellProgram 46 = .ok (.iaload, 1) := by decide +kernel
theorem d_Hunt_tellProgram_47 : decode b_Hunt_tellProgram 47 = .ok (.iconst 4, 1) := by decide +kernel
theorem d_Hunt_tellProgram_48 : decode b_Hunt_tellProgram 48 = .ok (.ishr, 1) := by decide +kernel
theorem d_Hunt_tellProgram_49 : decode b_Hunt_tellProgram 49 = .ok (.istore_n 3, 1) := by decide +kernel
theorem d_Hunt_tellProgram_50 : decode b_Hunt_tellProgram 50 = .ok (.iinc 4 (-1), 3) := by decide +kernel
theorem d_Hunt_tellProgram_53 : decode b_Hunt_tellProgram 53 = .ok (.goto (-33), 3) := by decide +kernel
theorem d_Hunt_tellProgram_56 : decode b_Hunt_tellProgram 56 = .ok (.aload_n 0, 1) := by decide +kernel
theorem d_Hunt_tellProgram_57 : decode b_Hunt_tellProgram 57 = .ok (.aload_n 0, 1) := by decide +kernel
theorem d_Hunt_tellProgram_58 : decode b_Hunt_tellProgram 58 = .ok (.getfield 43, 3) := by decide +kernel
theorem d_Hunt_tellProgram_61 : decode b_Hunt_tellProgram 61 = .ok (.iconst 1, 1) := by decide +kernel
theorem d_Hunt_tellProgram_62 : decode b_Hunt_tellProgram 62 = .ok (.iadd, 1) := by decide +kernel
theorem d_Hunt_tellProgram_63 : decode b_Hunt_tellProgram 63 = .ok (.putfield 32, 3) := by decide +kernel
theorem d_Hunt_tellProgram_66 : decode b_Hunt_tellProgram 66 = .ok (.return_, 1) := by decide +kernel
theorem d_Hunt_gather_0 : decode b_Hunt_gather 0 = .ok (.iload_n 2, 1) := by decide +kernel
theorem d_Hunt_gather_1 : decode b_Hunt_gather 1 = .ok (.istore_n 3, 1) := by decide +kernel
theorem d_Hunt_gather_2 : decode b_Hunt_gather 2 = .ok (.iconst 0, 1) := by decide +kernel
theorem d_Hunt_gather_3 : decode b_Hunt_gather 3 = .ok (.istore 4, 2) := by decide +kernel
theorem d_Hunt_gather_5 : decode b_Hunt_gather 5 = .ok (.iload 4, 2) := by decide +kernel
theorem d_Hunt_gather_7 : decode b_Hunt_gather 7 = .ok (.aload_n 0, 1) := by decide +kernel
theorem d_Hunt_gather_8 : decode b_Hunt_gather 8 = .ok (.getfield 36, 3) := by decide +kernel
theorem d_Hunt_gather_11 : decode b_Hunt_gather 11 = .ok (.getfield 89, 3) := by decide +kernel
theorem d_Hunt_gather_14 : decode b_Hunt_gather 14 = .ok (.if_icmp .ge 39, 3) := by decide +kernel
theorem d_Hunt_gather_17 : decode b_Hunt_gather 17 = .ok (.aload_n 0, 1) := by decide +kernel
theorem d_Hunt_gather_18 : decode b_Hunt_gather 18 = .ok (.aload_n 0, 1) := by decide +kernel
theorem d_Hunt_gather_19 : decode b_Hunt_gather 19 = .ok (.getfield 36, 3) := by decide +kernel
theorem d_Hunt_gather_22 : decode b_Hunt_gather 22 = .ok (.iload 4, 2) := by decide +kernel
theorem d_Hunt_gather_24 : decode b_Hunt_gather 24 = .ok (.aload_n 0, 1) := by decide +kernel
theorem d_Hunt_gather_25 : decode b_Hunt_gather 25 = .ok (.getfield 11, 3) := by decide +kernel
theorem d_Hunt_gather_28 : decode b_Hunt_gather 28 = .ok (.invokevirtual 92, 3) := by decide +kernel
theorem d_Hunt_gather_31 : decode b_Hunt_gather 31 = .ok (.iload_n 3, 1) := by decide +kernel
theorem d_Hunt_gather_32 : decode b_Hunt_gather 32 = .ok (.iload_n 1, 1) := by decide +kernel
theorem d_Hunt_gather_33 : decode b_Hunt_gather 33 = .ok (.iconst 4, 1) := by decide +kernel
theorem d_Hunt_gather_34 : decode b_Hunt_gather 34 = .ok (.ishl, 1) := by decide +kernel
theorem d_Hunt_gather_35 : decode b_Hunt_gather 35 = .ok (.iload 4, 2) := by decide +kernel
theorem d_Hunt_gather_37 : decode b_Hunt_gather 37 = .ok (.ior, 1) := by decide +kernel
theorem d_Hunt_gather_38 : decode b_Hunt_gather 38 = .ok (.invokevirtual 65, 3) := by decide +kernel
theorem d_Hunt_gather_41 : decode b_Hunt_gather 41 = .ok (.ifCond .eq 6, 3) := by decide +kernel
theorem d_Hunt_gather_44 : decode b_Hunt_gather 44 = .ok (.iinc 3 1, 3) := by decide +kernel
theorem d_Hunt_gather_47 : decode b_Hunt_gather 47 = .ok (.iinc 4 1, 3) := by decide +kernel
theorem d_Hunt_gather_50 : decode b_Hunt_gather 50 = .ok (.goto (-45), 3) := by decide +kernel
theorem d_Hunt_gather_53 : decode b_Hunt_gather 53 = .ok (.iload_n 3, 1) := by decide +kernel
theorem d_Hunt_gather_54 : decode b_Hunt_gather 54 = .ok (.ireturn, 1) := by decide +kernel
end
section
/-! ===== BEGIN words of one list among another's, by their places ===== -/
theorem goodIn_r {big : List Cond} (ws : List Cond) (ps : List Nat) (hp : ws = ps.filterMap (fun i => big[i]?)) (h : ws.all goodWord = true) : GoodIn big ws := by
  intro w hw
  have h1 := List.all_eq_true.mp h w hw
  rw [hp] at hw
  obtain ⟨i, -, hi⟩ := List.mem_filterMap.mp hw
  have hm : w ∈ big := by first | exact List.mem_of_getElem? hi | exact List.getElem?_mem hi
  exact ⟨hm, good_of_word h1⟩
theorem goodIn_app {big a b : List Cond} (ha : GoodIn big a) (hb : GoodIn big b) : GoodIn big (a ++ b) := fun w h => (List.mem_append.mp h).elim (ha w) (hb w)
theorem goodIn_ca {big a b : List Cond} {c : Cond} (ha : GoodIn big (c :: a)) (hb : GoodIn big b) : GoodIn big (c :: (a ++ b)) := fun w h => (List.mem_cons.mp h).elim (fun e => ha w (List.mem_cons.mpr (Or.inl e))) (fun h => (List.mem_append.mp h).elim (fun h => ha w (List.mem_cons.mpr (Or.inr h))) (hb w))
theorem goodIn_sub {big ws : List Cond} (hm : ∀ w ∈ ws, w ∈ big) (h : ws.all goodWord = true) : GoodIn big ws := fun w hw => ⟨hm w hw, good_of_word (List.all_eq_true.mp h w hw)⟩
/-! ===== END ===== -/

/-! ===== BEGIN exceptions that leave a method, and their catching by the caller (launches without stack traces) ===== -/
section VXA
/-! The laws vx_back, vx_callV, vx_callS, vx_callSW, vx_throw0, vx_throwS follow proofs of the library, with one case more: JvmDerived/Free/Laws.lean (Back.of_free), Shelf42/LK1.lean (callV, callS), Shelf/KitTraced.lean (throwNew0V, throwNewS). -/
/-- where a method has thrown q: the class by its name, the cell, what was written, the world -/
def vx_T (XC : String → State → State → Prop) (st : State) (q : Addr) (t : State) (mc ms : Nat) (free : Addr → Prop) : Prop :=
  ∃ (E : String) (ce : Cell) (L : List Loc), XC E st t ∧ t.heap[q]? = some ce ∧ ce.vm = .none ∧ st.vm.findClass E = some ce.cls ∧ st.WarmedH t.vm ∧ st.sameButNew ({ t with vm := st.vm } : State) L mc ms ∧ ∀ z ∈ L, free z.base
def vx_Q (Qc : Array Value → State → Outcome → State → Prop) (XC : String → State → State → Prop) (mc ms : Nat) (free : Addr → Prop) : Array Value → State → Outcome → State → Prop := fun a st o t =>
  (Qc a st o t ∧ ∃ L, FrameEnd st o t L mc ms ∧ ∀ q ∈ L, free q.base) ∨ ∃ q, o = .threw q ∧ vx_T XC st q t mc ms free
/-- a callee that returns or throws -/
def vx_Met (l : Launch) (y : MethodName) (ws : List Cond) (rm : Room) (Pc : Array Value → State → Prop) (Qc : Array Value → State → Outcome → State → Prop) (XC : String → State → State → Prop) (mc ms : Nat) (free : Addr → Prop) : Prop :=
  MetFree l y (headSpec ws rm) Pc (fun _ _ _ _ _ => True) (vx_Q Qc XC mc ms free)
def vx_Post (XC : String → State → State → Prop) (mc ms : Nat) (free : Addr → Prop) : Pt → Array Value → Addr → Pt → Prop := fun A a q B =>
  ∃ (g : JFrame) (mk : MethodId) (t : State) (L : List Loc) (E : String) (ce : Cell), B.U.heap = t.heap ∧ B.U.vm = t.vm ∧ XC E (A.U.calling g mk a) t ∧ t.heap[q]? = some ce ∧ ce.vm = .none ∧ A.U.vm.findClass E = some ce.cls ∧ B.locs = A.locs ++ L ∧ (∀ z ∈ L, free z.base) ∧ B.cells = A.cells + mc ∧ B.slots = A.slots + ms
def vx_Back (l : Launch) (R : Room) (p : Program) (e : Env) (below : List Frame) (s : State) (sargs : Array Value) (y : MethodName) (len W9 : Nat)
    (Pre : Pt → Array Value → Prop) (Post : Pt → Array Value → Option Value → Pt → Prop) (PostX : Pt → Array Value → Addr → Pt → Prop) : Prop :=
  ∀ (m : MethodId) (meth : Method) (c : Code) (A : Pt) (g : JFrame) (ig : Instr) (mk : MethodId) (a : Array Value),
    Stand p l e R s m sargs below meth c A.U A.locs A.cells A.slots → g.method = m → g.locals.size = c.maxLocals → decode c.code g.pc = .ok (ig, len) →
    2 * g.monitorRoom + (g.stack.map fun v => v.category).sum ≤ W9 → A.U.methodNamed? y = some mk → Pre A a →
    (∃ (v : Option Value) (B : Pt), Stand p l e R s m sargs below meth c B.U B.locs B.cells B.slots ∧ Post A a v B ∧
      Steps p.tables e below (doInvoke e (A.U.setTop g) [] mk a).1 (B.U.setTop { g with pc := g.pc + len, stack := v.toList ++ g.stack })) ∨
    (∃ (q : Addr) (B : Pt), Stand p l e R s m sargs below meth c B.U B.locs B.cells B.slots ∧ PostX A a q B ∧
      Steps p.tables e below (doInvoke e (A.U.setTop g) [] mk a).1 ((B.U.setTop g).pushFrame (.throwing q)))
section Payer
variable {l : Launch} {R : Room} {p : Program} {e : Env} {below : List Frame} {s : State} {sargs : Array Value} {y : MethodName} {len W9 : Nat}
theorem vx_back {ws : List Cond} {rm : Room} {Pc : Array Value → State → Prop} {Qc : Array Value → State → Outcome → State → Prop} {XC : String → State → State → Prop} {mc ms : Nat} {free : Addr → Prop} {bytes : ByteArray} {maxL : Nat} {ret : Option FieldType}
    (hM : vx_Met l y ws rm Pc Qc XC mc ms free) (hblind : FrameBlind Pc) (hrc : rm.cells = mc) (hrs : rm.slots = ms)
    (hframes : rm.frames + 1 ≤ R.frames) (hlocals : W9 + (maxL + 11) + rm.locals ≤ R.locals)
    (hws : ∀ w ∈ ws, ∀ a' U, s.WarmedH U.vm → w.before a' U = true) (hcode : Cond.code y bytes maxL ret ∈ ws) (hinit : ∀ a' U, s.WarmedH U.vm → (Cond.initialized y.cls).before a' U = true) :
    vx_Back l R p e below s sargs y len W9 (PreOf R mc ms Pc) (PostOf Qc mc ms free) (vx_Post XC mc ms free) := by
  intro m meth c A g ig mk a X hg hsize hdg hW hn hp
  have h1 : (headSpec ws rm).pre.before a A.U = true := atoms_intro fun w hw => hws w hw _ _ X.warmed
  have h2 : (Cond.code y bytes maxL ret).before a A.U = true := hws _ hcode _ _ X.warmed
  have h3 : (Cond.initialized y.cls).before a A.U = true := hinit _ _ X.warmed
  have h4 : A.cells + (headSpec ws rm).room.cells ≤ R.cells := by rw [show (headSpec ws rm).room.cells = mc from hrc]; exact hp.1
  have h5 : A.slots + (headSpec ws rm).room.slots ≤ R.slots := by rw [show (headSpec ws rm).room.slots = ms from hrs]; exact hp.2.1
  have hPc : Pc a (A.U.calling g mk a) := hblind _ _ _ _ hp.2.2
  obtain ⟨U, Ls, c0, s0⟩ := A
  dsimp only [Pt.U, Pt.locs, Pt.cells, Pt.slots] at h1 h2 h3 h4 h5 X hn hPc ⊢
  obtain ⟨methY, cY, hmY, hcY, -, hlY, -, -, -, -⟩ := Cond.code_spec hn h2
  obtain ⟨kY, hkY, -⟩ := className_of_methodNamed hn
  have hinitY : kY.init = .initialized := Cond.initialized_spec (findClass_of_methodNamed hn) hkY h3
  have h : At U g.method c below := by rw [hg]; exact X.here
  have hlocals9 : W9 + (maxL + 11) + (headSpec ws rm).room.locals ≤ R.locals := hlocals
  have happ : (headSpec ws rm).appliesLoose y e.platform (U.calling g mk a) = true :=
    Spec.appliesLoose_calling (g := g) h hdg hn hkY hinitY
      (X.room_calling (g := g) (R' := (headSpec ws rm).room) hsize hmY hcY hframes (by rw [hlY]; omega) h4 h5) h1
  obtain ⟨mid, hmid⟩ := h.above
  have hfr : (U.setTop g).frames = (.java g :: mid) ++ below := by rw [State.frames_setTop' g h.top, hmid]; rfl
  obtain ⟨o, s₂, hsteps, -, hend, hq⟩ := Steps.callFree hM p X.admits X.cas X.clock (acts := []) hfr happ hPc trivial
  have hq' : vx_Q Qc XC mc ms free a (U.calling g mk a) o s₂ := hq
  rw [State.frames_setTop' g h.top] at hend
  obtain ⟨g₀, hg0⟩ := Option.isSome_iff_exists.mp h.top
  obtain ⟨r, hr⟩ := State.topJava?_eq_some.mp hg0
  have hr' : (({ U with heap := s₂.heap, slotsUsed := s₂.slotsUsed } : State).setVm s₂.vm).frames = .java g₀ :: r := hr
  rcases hq' with ⟨hqc, L, hfe, hL⟩ | ⟨q, rfl, E, ce, L, hx, hce, hcv, hcl, hW₂, hsm, hL⟩
  · obtain ⟨⟨v, rfl⟩, hW₂, e2, q2, q3, q4, q5, q6⟩ := id hfe
    have e3 : s₂ = ({ (U.calling g mk a).setFrames s₂.frames with heap := s₂.heap, slotsUsed := s₂.slotsUsed } : State).setVm s₂.vm := by
      have : s₂ = ({ s₂ with vm := (U.calling g mk a).vm } : State).setVm s₂.vm := rfl
      rw [e2] at this
      exact this
    obtain ⟨c₂, i₂, len₂, hc₂, hd₂, hf₂⟩ := hend
    have hW' : U.WarmedH s₂.vm := hW₂
    have hcc : c₂ = c := by
      have h1 : s₂.code? g.method = U.code? g.method := by
        rw [State.code?_eq, State.code?_eq, hW'.alike.method?]
      exact Option.some.inj (hc₂.symm.trans (h1.trans h.code))
    subst hcc
    have hlen : len₂ = len := by rw [hdg] at hd₂; cases hd₂; rfl
    subst hlen
    have hs₂ : s₂ = (({ U with heap := s₂.heap, slotsUsed := s₂.slotsUsed } : State).setVm s₂.vm).setTop { g with pc := g.pc + len₂, stack := v.toList ++ g.stack } := by
      refine e3.trans ?_
      rw [hf₂, State.calling_eq h.top, State.setFrames_setFrames, State.setTop_of_frames _ hr', hr]
      rfl
    have hsame : U.sameButNew ({ U with heap := s₂.heap, slotsUsed := s₂.slotsUsed } : State) L mc ms := by
      refine ⟨?_, q2, q3, q4, q5, q6⟩
      obtain ⟨t, ht, -⟩ := State.frames_cons hr
      show ({ U with heap := s₂.heap, slotsUsed := s₂.slotsUsed } : State) = { U.setFrames U.frames with heap := s₂.heap, slotsUsed := s₂.slotsUsed }
      rw [State.setFrames_self ht]
    subst hg
    refine Or.inl ⟨v, ⟨(({ U with heap := s₂.heap, slotsUsed := s₂.slotsUsed } : State).setVm s₂.vm), Ls ++ L, c0 + mc, s0 + ms⟩,
      ⟨X.admits, X.cas, X.clock, X.frames, X.room, X.hears, X.method, X.code, (X.here.setHeapUsed s₂.heap s₂.slotsUsed).setVm hW'.alike, X.tail, State.WarmedH.trans X.warmed hW', X.limits, X.bytes, X.same.trans (hsame.setVm s.vm)⟩,
      ⟨g, mk, s₂, L, rfl, rfl, hqc, rfl, hL, rfl, rfl⟩, ?_⟩
    show Steps p.tables e below _ ((({ U with heap := s₂.heap, slotsUsed := s₂.slotsUsed } : State).setVm s₂.vm).setTop { g with pc := g.pc + len₂, stack := v.toList ++ g.stack })
    rw [← hs₂]
    exact hsteps
  · obtain ⟨e2, q2, q3, q4, q5, q6⟩ := id hsm
    have e3 : s₂ = ({ (U.calling g mk a).setFrames s₂.frames with heap := s₂.heap, slotsUsed := s₂.slotsUsed } : State).setVm s₂.vm := by
      have : s₂ = ({ s₂ with vm := (U.calling g mk a).vm } : State).setVm s₂.vm := rfl
      rw [e2] at this
      exact this
    have hf₂ : s₂.frames = .throwing q :: .java g :: U.frames.tail := hend
    have hW' : U.WarmedH s₂.vm := hW₂
    have hs₂ : s₂ = ((({ U with heap := s₂.heap, slotsUsed := s₂.slotsUsed } : State).setVm s₂.vm).setTop g).pushFrame (.throwing q) := by
      refine e3.trans ?_
      rw [hf₂, State.calling_eq h.top, State.setFrames_setFrames, State.pushFrame, State.frames_setTop _ hr', State.setTop_of_frames _ hr', State.setFrames_setFrames, hr]
      rfl
    have hsame : U.sameButNew ({ U with heap := s₂.heap, slotsUsed := s₂.slotsUsed } : State) L mc ms := by
      refine ⟨?_, q2, q3, q4, q5, q6⟩
      obtain ⟨t, ht, -⟩ := State.frames_cons hr
      show ({ U with heap := s₂.heap, slotsUsed := s₂.slotsUsed } : State) = { U.setFrames U.frames with heap := s₂.heap, slotsUsed := s₂.slotsUsed }
      rw [State.setFrames_self ht]
    subst hg
    refine Or.inr ⟨q, ⟨(({ U with heap := s₂.heap, slotsUsed := s₂.slotsUsed } : State).setVm s₂.vm), Ls ++ L, c0 + mc, s0 + ms⟩,
      ⟨X.admits, X.cas, X.clock, X.frames, X.room, X.hears, X.method, X.code, (X.here.setHeapUsed s₂.heap s₂.slotsUsed).setVm hW'.alike, X.tail, State.WarmedH.trans X.warmed hW', X.limits, X.bytes, X.same.trans (hsame.setVm s.vm)⟩,
      ⟨g, mk, s₂, L, E, ce, rfl, rfl, hx, hce, hcv, hcl, rfl, hL, rfl, rfl⟩, ?_⟩
    show Steps p.tables e below _ (((({ U with heap := s₂.heap, slotsUsed := s₂.slotsUsed } : State).setVm s₂.vm).setTop g).pushFrame (.throwing q))
    rw [← hs₂]
    exact hsteps
end Payer
section Calls
variable {p : Program} {l : Launch} {e : Env} {R : Room} {s : State} {m : MethodId} {args : Array Value} {below : List Frame} {meth : Method} {c : Code} {T : State} {locs : List Loc} {cells slots : Nat}
theorem vx_callV (X : Stand p l e R s m args below meth c T locs cells slots) (hexec : p.tables.exec = Jvm.exec) {own C : String} {index : Nat} {y : MethodName} {bytes : ByteArray} {maxL : Nat} {ret : Option FieldType}
    (hown : s.vm.findClass own = some m.cls) (hlink : (Cond.methodLink own index y).before args s = true) (hinst : (Cond.instanceMethod y).before args s = true) (hsel : (Cond.selects C y y).before args s = true)
    (hcode : (Cond.code y bytes maxL ret).before args s = true) (hy : y.cls ≠ "java/lang/invoke/MethodHandle" ∧ y.cls ≠ "java/lang/invoke/VarHandle")
    {W9 : Nat} {Pre : Pt → Array Value → Prop} {Post : Pt → Array Value → Option Value → Pt → Prop} {PostX : Pt → Array Value → Addr → Pt → Prop} (hK : vx_Back l R p e below s args y 3 W9 Pre Post PostX)
    {b : Addr} {cellB : Cell} (hcell : T.heap[b]? = some cellB) (hobj : cellB.vm.isStatics = false) (hcls : s.vm.findClass C = some cellB.cls)
    {g : JFrame} (hg : g.method = m) (hsize : g.locals.size = c.maxLocals) {argsL rest : List Value} (hlen : ∀ sig, parseMethodDescriptor y.desc = some sig → argsL.length = sig.parameters.length)
    (hstack : g.stack = argsL.reverse ++ .ref b :: rest) (hW : 2 * g.monitorRoom + (rest.map fun v => v.category).sum ≤ W9) (hdg : decode c.code g.pc = .ok (.invokevirtual index, 3))
    (hpre : ∀ vm₁, s.WarmedH vm₁ → Pre ⟨T.setVm vm₁, locs, cells, slots⟩ (Value.ref b :: argsL).toArray) :
    (∃ (v : Option Value) (vm₁ : Vm) (B : Pt), s.WarmedH vm₁ ∧ Stand p l e R s m args below meth c B.U B.locs B.cells B.slots ∧ Post ⟨T.setVm vm₁, locs, cells, slots⟩ (Value.ref b :: argsL).toArray v B ∧
      ∀ target, Steps p.tables e below (B.U.setTop { g with pc := g.pc + 3, stack := v.toList ++ rest }) target → Steps p.tables e below (T.setTop g) target) ∨
    (∃ (q : Addr) (vm₁ : Vm) (B : Pt), s.WarmedH vm₁ ∧ Stand p l e R s m args below meth c B.U B.locs B.cells B.slots ∧ PostX ⟨T.setVm vm₁, locs, cells, slots⟩ (Value.ref b :: argsL).toArray q B ∧
      Steps p.tables e below (T.setTop g) ((B.U.setTop { g with stack := rest }).pushFrame (.throwing q))) := by
  obtain ⟨mk, methM, hnamed, hmethM, hstM, habM⟩ := Cond.instanceMethod_spec hinst
  obtain ⟨methM', cM, hmethM', -, -, -, -, -, -, hsigM⟩ := Cond.code_spec hnamed hcode
  cases hmethM.symm.trans hmethM'
  obtain ⟨c2, r2, m2, q1, q2, q3, q4, kP, hkP, hkPi⟩ := Cond.selects_spec hsel
  cases hcls.symm.trans q1
  cases (State.methodFound?_of_named hnamed hy).symm.trans q2
  cases hnamed.symm.trans q3
  have hselP : selectMethod e.platform s.vm cellB.cls mk = .method mk := by rw [Launch.admits_selectMethod X.admits]; exact q4
  obtain ⟨vm₁, X₁, hstep₁⟩ := X.invokevirtual hexec hown hlink hnamed hmethM hstM hkP hkPi hy (a := b) (cell := cellB) hcell
    (fun z h => by rw [h] at hobj; cases hobj) hselP hmethM habM hkP hkPi (g := g) hg (argsL := argsL) (rest := rest) (hlen _ hsigM) hstack hdg
  rcases hK m meth c ⟨T.setVm vm₁, locs, cells, slots⟩ { g with stack := rest } (.invokevirtual index) mk (Value.ref b :: argsL).toArray X₁ hg hsize hdg hW (X₁.named hnamed) (hpre vm₁ X₁.warmed) with ⟨v, B, X', hpost, hsteps⟩ | ⟨q, B, X', hpost, hsteps⟩
  · exact Or.inl ⟨v, vm₁, B, X₁.warmed, X', hpost, fun target h => hstep₁ _ fun acts => by rw [doInvoke_state]; exact hsteps.trans h⟩
  · exact Or.inr ⟨q, vm₁, B, X₁.warmed, X', hpost, hstep₁ _ fun acts => by rw [doInvoke_state]; exact hsteps⟩
theorem vx_callS (X : Stand p l e R s m args below meth c T locs cells slots) (hexec : p.tables.exec = Jvm.exec) {own : String} {index : Nat} {y : MethodName} {bytes : ByteArray} {maxL : Nat} {ret : Option FieldType}
    (hown : s.vm.findClass own = some m.cls) (hlink : (Cond.methodLink own index y).before args s = true) (hstat : (Cond.static y).before args s = true) (hinit : (Cond.initialized y.cls).before args s = true)
    (hcode : (Cond.code y bytes maxL ret).before args s = true) (hy : y.cls ≠ "java/lang/invoke/MethodHandle" ∧ y.cls ≠ "java/lang/invoke/VarHandle")
    {W9 : Nat} {Pre : Pt → Array Value → Prop} {Post : Pt → Array Value → Option Value → Pt → Prop} {PostX : Pt → Array Value → Addr → Pt → Prop} (hK : vx_Back l R p e below s args y 3 W9 Pre Post PostX)
    {g : JFrame} (hg : g.method = m) (hsize : g.locals.size = c.maxLocals) {argsL rest : List Value} (hlen : ∀ sig, parseMethodDescriptor y.desc = some sig → argsL.length = sig.parameters.length)
    (hstack : g.stack = argsL.reverse ++ rest) (hW : 2 * g.monitorRoom + (rest.map fun v => v.category).sum ≤ W9) (hdg : decode c.code g.pc = .ok (.invokestatic index, 3))
    (hpre : ∀ vm₁, s.WarmedH vm₁ → Pre ⟨T.setVm vm₁, locs, cells, slots⟩ argsL.toArray) :
    (∃ (v : Option Value) (vm₁ : Vm) (B : Pt), s.WarmedH vm₁ ∧ Stand p l e R s m args below meth c B.U B.locs B.cells B.slots ∧ Post ⟨T.setVm vm₁, locs, cells, slots⟩ argsL.toArray v B ∧
      ∀ target, Steps p.tables e below (B.U.setTop { g with pc := g.pc + 3, stack := v.toList ++ rest }) target → Steps p.tables e below (T.setTop g) target) ∨
    (∃ (q : Addr) (vm₁ : Vm) (B : Pt), s.WarmedH vm₁ ∧ Stand p l e R s m args below meth c B.U B.locs B.cells B.slots ∧ PostX ⟨T.setVm vm₁, locs, cells, slots⟩ argsL.toArray q B ∧
      Steps p.tables e below (T.setTop g) ((B.U.setTop { g with stack := rest }).pushFrame (.throwing q))) := by
  obtain ⟨mk, hnamed⟩ := Cond.code_named hcode
  obtain ⟨methM, cM, hmethM, -, -, -, -, -, -, hsigM⟩ := Cond.code_spec hnamed hcode
  have hstatic : methM.isStatic = true := Cond.static_spec hnamed hmethM hstat
  obtain ⟨kP, hkP, -⟩ := className_of_methodNamed hnamed
  have hinitP : kP.init = .initialized := Cond.initialized_spec (findClass_of_methodNamed hnamed) hkP hinit
  obtain ⟨vm₁, X₁, hstep₁⟩ := X.invokestatic hexec hown hlink hnamed hmethM hstatic hkP hinitP hy (g := g) hg (argsL := argsL) (rest := rest) (hlen _ hsigM) hstack hdg
  rcases hK m meth c ⟨T.setVm vm₁, locs, cells, slots⟩ { g with stack := rest } (.invokestatic index) mk argsL.toArray X₁ hg hsize hdg hW (X₁.named hnamed) (hpre vm₁ X₁.warmed) with ⟨v, B, X', hpost, hsteps⟩ | ⟨q, B, X', hpost, hsteps⟩
  · exact Or.inl ⟨v, vm₁, B, X₁.warmed, X', hpost, fun target h => hstep₁ _ fun acts => by rw [doInvoke_state]; exact hsteps.trans h⟩
  · exact Or.inr ⟨q, vm₁, B, X₁.warmed, X', hpost, hstep₁ _ fun acts => by rw [doInvoke_state]; exact hsteps⟩
end Calls
theorem vx_cls {s : State} {T : State} {vm₁ : Vm} {E : String} {k : ClassId} (hW : s.WarmedH vm₁) (h : (T.setVm vm₁).vm.findClass E = some k) : s.vm.findClass E = some k := by
  have h1 : vm₁.findClass E = some k := h
  rw [hW.alike.findClass] at h1
  exact h1
/-- the method's frame g, with q thrown over it -/
def vx_W (p : Program) (l : Launch) (e : Env) (R : Room) (s : State) (m : MethodId) (args : Array Value) (below : List Frame) (meth : Method) (c : Code) (H : Heap) (locs : List Loc) (cells slots : Nat) (Q : State → Prop) (g : JFrame) (q : Addr) : Prop :=
  ∀ T : State, T.heap = H → Stand p l e R s m args below meth c T locs cells slots → ∃ t, Steps p.tables e below ((T.setTop g).pushFrame (.throwing q)) t ∧ Q t
def vx_Run (p : Program) (l : Launch) (e : Env) (R : Room) (s : State) (m : MethodId) (args : Array Value) (below : List Frame) (meth : Method) (c : Code) (H : Heap) (locs : List Loc) (cells slots mc ms : Nat) (g : JFrame) (rest : List Value) (Qa : State → Outcome → State → Prop) (XC : String → State → State → Prop) (free : Addr → Prop) : Prop :=
  ∀ T : State, T.heap = H → Stand p l e R s m args below meth c T locs cells slots →
    (∃ (v : Option Value) (st₀ t T' : State) (L : List Loc), st₀.heap = H ∧ Stand p l e R s m args below meth c T' (locs ++ L) (cells + mc) (slots + ms) ∧ (∀ q ∈ L, free q.base) ∧ T'.heap = t.heap ∧ T'.vm = t.vm ∧ Qa st₀ (.returned v) t ∧
      Goes p e below T g T' { g with pc := g.pc + 3, stack := v.toList ++ rest }) ∨
    (∃ (q : Addr) (st₀ t T' : State) (L : List Loc) (E : String) (ce : Cell), st₀.heap = H ∧ Stand p l e R s m args below meth c T' (locs ++ L) (cells + mc) (slots + ms) ∧ (∀ z ∈ L, free z.base) ∧ T'.heap = t.heap ∧ T'.vm = t.vm ∧ XC E st₀ t ∧ t.heap[q]? = some ce ∧ ce.vm = .none ∧ s.vm.findClass E = some ce.cls ∧
      Steps p.tables e below (T.setTop g) ((T'.setTop { g with stack := rest }).pushFrame (.throwing q)))
def vx_X {S : Type} (px : S → Prop) (B : String → S → State → Prop) (A : Nat → Prop) : String → State → State → Prop := fun E st t => ∃ u : S, px u ∧ B E u t ∧ va_F A st t
section Runs
variable {p : Program} {l : Launch} {e : Env} {R : Room} {s : State} {m : MethodId} {args : Array Value} {below : List Frame} {meth : Method} {c : Code} {H : Heap} {locs : List Loc} {cells slots : Nat}
variable {y : MethodName} {bytes cc : ByteArray} {maxL nL mc ms n index : Nat} {ret : Option FieldType} {ws : List Cond} {rm : Room} {Pc : Array Value → State → Prop} {Qc : Array Value → State → Outcome → State → Prop} {XC : String → State → State → Prop} {free : Addr → Prop} {Ts : List Cond} {own C : String} {b : Addr} {As rest : List Value} {g : JFrame}
theorem vx_callBack (cb : CallB R s args own index y bytes maxL ret ws rm mc ms n) (hM : vx_Met l y ws rm Pc Qc XC mc ms free) (hbl : FrameBlind Pc) : vx_Back l R p e below s args y 3 8 (PreOf R mc ms Pc) (PostOf Qc mc ms free) (vx_Post XC mc ms free) := by
  obtain ⟨hrc, hrs, hfr, hlo, hws, hcw, -, hini, -⟩ := cb
  exact vx_back (bytes := bytes) (maxL := maxL) (ret := ret) hM hbl hrc hrs hfr hlo hws hcw (fun a' U hW => word_at hW (Or.inl (by first | rfl | simp [Cond.onTables, Cond.keeps, Cond.steady])) hini)
theorem vx_runV (S : CallFix p m c cc nL s args Ts own) (hM : vx_Met l y ws rm Pc Qc XC mc ms free) (cw : CallW R s args own C index y bytes maxL ret ws rm mc ms n) (hp : PreV s H C b Pc As)
    (hg : g.method = m) (hn : As.length = n) (hsize : g.locals.size = nL) (hstack : g.stack = As.reverse ++ .ref b :: rest) (hW : 2 * g.monitorRoom + (rest.map fun v => v.category).sum ≤ 8) (hdg : decode cc g.pc = .ok (.invokevirtual index, 3)) (hf : cells + mc ≤ R.cells ∧ slots + ms ≤ R.slots) :
    vx_Run p l e R s m args below meth c H locs cells slots mc ms g rest (Qc (Value.ref b :: As).toArray) XC free := by
  have hK : vx_Back l R p e below s args y 3 8 (PreOf R mc ms Pc) (PostOf Qc mc ms free) (vx_Post XC mc ms free) := vx_callBack cw.1 hM hp.1
  obtain ⟨⟨-, -, -, -, -, -, hcode, -, hy, hlen, hl⟩, hin, hse⟩ := cw
  obtain ⟨hx, hb, hml, ho, -⟩ := S
  obtain ⟨-, ⟨cellB, hcB, hoB, hclB⟩, hPc⟩ := hp
  intro T hT X
  rcases vx_callV X hx (C := C) (bytes := bytes) (maxL := maxL) (ret := ret) ho hl hin hse hcode hy hK (by rw [hT]; exact hcB) hoB hclB hg (hsize.trans hml.symm) (argsL := As) (rest := rest) (fun sig h => hn.trans (hlen sig h)) hstack hW (by rw [hb]; exact hdg)
    (fun vm₁ hW₁ => ⟨hf.1, hf.2, hPc (T.setVm vm₁) hT hW₁⟩) with ⟨v, vm₁, ⟨U', l2, c2, s2⟩, hW₁, X', ⟨g', mk, t, L, e1, e2, hq, h1, hL, h2, h3⟩, st⟩ | ⟨q, vm₁, ⟨U', l2, c2, s2⟩, hW₁, X', ⟨g', mk, t, L, E, ce, e1, e2, hq, hce, hcv, hcl, h1, hL, h2, h3⟩, st⟩
  · dsimp only [Pt.U, Pt.locs, Pt.cells, Pt.slots] at X' e1 e2 h1 h2 h3 st
    subst h1; subst h2; subst h3
    exact Or.inl ⟨v, (T.setVm vm₁).calling g' mk (Value.ref b :: As).toArray, t, U', L, hT, X', hL, e1, e2, hq, st⟩
  · dsimp only [Pt.U, Pt.locs, Pt.cells, Pt.slots] at X' e1 e2 h1 h2 h3 st hcl
    subst h1; subst h2; subst h3
    exact Or.inr ⟨q, (T.setVm vm₁).calling g' mk (Value.ref b :: As).toArray, t, U', L, E, ce, hT, X', hL, e1, e2, hq, hce, hcv, vx_cls hW₁ hcl, st⟩
theorem vx_runS (S : CallFix p m c cc nL s args Ts own) (hM : vx_Met l y ws rm Pc Qc XC mc ms free) (cw : CallB R s args own index y bytes maxL ret ws rm mc ms n ∧ (Cond.static y).before args s = true) (hp : PreS s H Pc As)
    (hg : g.method = m) (hn : As.length = n) (hsize : g.locals.size = nL) (hstack : g.stack = As.reverse ++ rest) (hW : 2 * g.monitorRoom + (rest.map fun v => v.category).sum ≤ 8) (hdg : decode cc g.pc = .ok (.invokestatic index, 3)) (hf : cells + mc ≤ R.cells ∧ slots + ms ≤ R.slots) :
    vx_Run p l e R s m args below meth c H locs cells slots mc ms g rest (Qc As.toArray) XC free := by
  have hK : vx_Back l R p e below s args y 3 8 (PreOf R mc ms Pc) (PostOf Qc mc ms free) (vx_Post XC mc ms free) := vx_callBack cw.1 hM hp.1
  obtain ⟨⟨-, -, -, -, -, -, hcode, hini, hy, hlen, hl⟩, hstt⟩ := cw
  obtain ⟨hx, hb, hml, ho, -⟩ := S
  intro T hT X
  rcases vx_callS X hx (bytes := bytes) (maxL := maxL) (ret := ret) ho hl hstt hini hcode hy hK hg (hsize.trans hml.symm) (argsL := As) (rest := rest) (fun sig h => hn.trans (hlen sig h)) hstack hW (by rw [hb]; exact hdg)
    (fun vm₁ hW₁ => ⟨hf.1, hf.2, hp.2 (T.setVm vm₁) hT hW₁⟩) with ⟨v, vm₁, ⟨U', l2, c2, s2⟩, hW₁, X', ⟨g', mk, t, L, e1, e2, hq, h1, hL, h2, h3⟩, st⟩ | ⟨q, vm₁, ⟨U', l2, c2, s2⟩, hW₁, X', ⟨g', mk, t, L, E, ce, e1, e2, hq, hce, hcv, hcl, h1, hL, h2, h3⟩, st⟩
  · dsimp only [Pt.U, Pt.locs, Pt.cells, Pt.slots] at X' e1 e2 h1 h2 h3 st
    subst h1; subst h2; subst h3
    exact Or.inl ⟨v, (T.setVm vm₁).calling g' mk As.toArray, t, U', L, hT, X', hL, e1, e2, hq, st⟩
  · dsimp only [Pt.U, Pt.locs, Pt.cells, Pt.slots] at X' e1 e2 h1 h2 h3 st hcl
    subst h1; subst h2; subst h3
    exact Or.inr ⟨q, (T.setVm vm₁).calling g' mk As.toArray, t, U', L, E, ce, hT, X', hL, e1, e2, hq, hce, hcv, vx_cls hW₁ hcl, st⟩
end Runs
section Rows
variable {p : Program} {l : Launch} {e : Env} {R : Room} {s : State} {m : MethodId} {args : Array Value} {below : List Frame} {meth : Method} {c : Code} {H : Heap} {locs : List Loc} {cells slots : Nat} {Q : State → Prop}
variable {mc ms : Nat} {free : Addr → Prop} {A0 A1 : Nat → Prop} {H0 : Heap} {a : Array Value} {pc : Nat} {ls : Array Slot} {st0 rest : List Value}
theorem vx_keep {st₀ t T' : State} {L : List Loc} (h0 : st₀.heap = H) (e1 : T'.heap = t.heap) (hS : va_S A0 H0 H locs) (hA : ∀ q, q < H.size → A1 q → A0 q) (hf : ∀ q, free q → A0 q) (hL : ∀ q ∈ L, free q.base) (hF : va_F A1 st₀ t) :
    H.size ≤ T'.heap.size ∧ (∀ q : Nat, q < H.size → ¬ A1 q → T'.heap[q]? = H[q]?) ∧ va_S A0 H0 T'.heap (locs ++ L) := by
  obtain ⟨hz, hk⟩ := hF
  rw [h0] at hz hk
  exact ⟨by rw [e1]; exact hz, fun q h1 h2 => by rw [e1]; exact hk q h1 h2,
    ⟨Nat.le_trans hS.1 (by rw [e1]; exact hz), fun q h1 h2 => by rw [e1, hk q (Nat.lt_of_lt_of_le h1 hS.1) (fun z => h2 (hA q (Nat.lt_of_lt_of_le h1 hS.1) z))]; exact hS.2.1 q h1 h2, fun q hq => by
      rcases List.mem_append.mp hq with h | h
      · exact hS.2.2 q h
      · exact hf _ (hL q h)⟩⟩
theorem vx_calli {S SX : Type} {post : Int32 → S → Prop} {px : SX → Prop} {B : S → State → Prop} {BX : String → SX → State → Prop} {AX : Nat → Prop} (hr : vx_Run p l e R s m args below meth c H locs cells slots mc ms (F0 m pc ls st0) rest (va_Qi post B A1 a) (vx_X px BX AX) free) (hS : va_S A0 H0 H locs) (hA : ∀ q, q < H.size → A1 q → A0 q) (hf : ∀ q, free q → A0 q) (hAX : ∀ q, q < H.size → AX q → A0 q)
    (kx : ∀ (E : String) (ce : Cell) (q9 : Addr) (u : SX) (t : State) (H1 : Heap) (locs1 : List Loc), t.heap = H1 → s.vm.Alike t.vm → px u → BX E u t → H.size ≤ H1.size → (∀ q : Nat, q < H.size → ¬ AX q → H1[q]? = H[q]?) → va_S A0 H0 H1 locs1 → H1[q9]? = some ce → ce.vm = .none → s.vm.findClass E = some ce.cls → vx_W p l e R s m args below meth c H1 locs1 (cells + mc) (slots + ms) Q (F0 m pc ls rest) q9)
    (kk : ∀ (r : Int32) (u : S) (t : State) (H1 : Heap) (locs1 : List Loc), t.heap = H1 → s.vm.Alike t.vm → post r u → B u t → H.size ≤ H1.size → (∀ q : Nat, q < H.size → ¬ A1 q → H1[q]? = H[q]?) → va_S A0 H0 H1 locs1 → W p l e R s m args below meth c H1 locs1 (cells + mc) (slots + ms) Q (F0 m (pc + 3) ls (.int r :: rest))) : W p l e R s m args below meth c H locs cells slots Q (F0 m pc ls st0) := by
  intro T hT X
  rcases hr T hT X with ⟨v, st₀, t, T', L, h0, X', hL, e1, e2, ⟨⟨r, u, hv, hp, hb⟩, hF⟩, st⟩ | ⟨q, st₀, t, T', L, E, ce, h0, X', hL, e1, e2, ⟨u, hp, hb, hF⟩, hce, hcv, hcl, st⟩
  · cases hv
    obtain ⟨k1, k2, k3⟩ := vx_keep h0 e1 hS hA hf hL hF
    obtain ⟨t2, a1, b1⟩ := kk r u t T'.heap (locs ++ L) e1.symm (by rw [← e2]; exact X'.warmed.alike) hp hb k1 k2 k3 T' rfl X'
    exact ⟨t2, st t2 a1, b1⟩
  · obtain ⟨k1, k2, k3⟩ := vx_keep h0 e1 hS hAX hf hL hF
    obtain ⟨t2, a1, b1⟩ := kx E ce q u t T'.heap (locs ++ L) e1.symm (by rw [← e2]; exact X'.warmed.alike) hp hb k1 k2 k3 (by rw [e1]; exact hce) hcv hcl T' rfl X'
    exact ⟨t2, st.trans a1, b1⟩
theorem vx_calll {S SX : Type} {post : Int64 → S → Prop} {px : SX → Prop} {B : S → State → Prop} {BX : String → SX → State → Prop} {AX : Nat → Prop} (hr : vx_Run p l e R s m args below meth c H locs cells slots mc ms (F0 m pc ls st0) rest (va_Ql post B A1 a) (vx_X px BX AX) free) (hS : va_S A0 H0 H locs) (hA : ∀ q, q < H.size → A1 q → A0 q) (hf : ∀ q, free q → A0 q) (hAX : ∀ q, q < H.size → AX q → A0 q)
    (kx : ∀ (E : String) (ce : Cell) (q9 : Addr) (u : SX) (t : State) (H1 : Heap) (locs1 : List Loc), t.heap = H1 → s.vm.Alike t.vm → px u → BX E u t → H.size ≤ H1.size → (∀ q : Nat, q < H.size → ¬ AX q → H1[q]? = H[q]?) → va_S A0 H0 H1 locs1 → H1[q9]? = some ce → ce.vm = .none → s.vm.findClass E = some ce.cls → vx_W p l e R s m args below meth c H1 locs1 (cells + mc) (slots + ms) Q (F0 m pc ls rest) q9)
    (kk : ∀ (r : Int64) (u : S) (t : State) (H1 : Heap) (locs1 : List Loc), t.heap = H1 → s.vm.Alike t.vm → post r u → B u t → H.size ≤ H1.size → (∀ q : Nat, q < H.size → ¬ A1 q → H1[q]? = H[q]?) → va_S A0 H0 H1 locs1 → W p l e R s m args below meth c H1 locs1 (cells + mc) (slots + ms) Q (F0 m (pc + 3) ls (.long r :: rest))) : W p l e R s m args below meth c H locs cells slots Q (F0 m pc ls st0) := by
  intro T hT X
  rcases hr T hT X with ⟨v, st₀, t, T', L, h0, X', hL, e1, e2, ⟨⟨r, u, hv, hp, hb⟩, hF⟩, st⟩ | ⟨q, st₀, t, T', L, E, ce, h0, X', hL, e1, e2, ⟨u, hp, hb, hF⟩, hce, hcv, hcl, st⟩
  · cases hv
    obtain ⟨k1, k2, k3⟩ := vx_keep h0 e1 hS hA hf hL hF
    obtain ⟨t2, a1, b1⟩ := kk r u t T'.heap (locs ++ L) e1.symm (by rw [← e2]; exact X'.warmed.alike) hp hb k1 k2 k3 T' rfl X'
    exact ⟨t2, st t2 a1, b1⟩
  · obtain ⟨k1, k2, k3⟩ := vx_keep h0 e1 hS hAX hf hL hF
    obtain ⟨t2, a1, b1⟩ := kx E ce q u t T'.heap (locs ++ L) e1.symm (by rw [← e2]; exact X'.warmed.alike) hp hb k1 k2 k3 (by rw [e1]; exact hce) hcv hcl T' rfl X'
    exact ⟨t2, st.trans a1, b1⟩
theorem vx_callf {S SX : Type} {post : UInt32 → S → Prop} {px : SX → Prop} {B : S → State → Prop} {BX : String → SX → State → Prop} {AX : Nat → Prop} (hr : vx_Run p l e R s m args below meth c H locs cells slots mc ms (F0 m pc ls st0) rest (va_Qf post B A1 a) (vx_X px BX AX) free) (hS : va_S A0 H0 H locs) (hA : ∀ q, q < H.size → A1 q → A0 q) (hf : ∀ q, free q → A0 q) (hAX : ∀ q, q < H.size → AX q → A0 q)
    (kx : ∀ (E : String) (ce : Cell) (q9 : Addr) (u : SX) (t : State) (H1 : Heap) (locs1 : List Loc), t.heap = H1 → s.vm.Alike t.vm → px u → BX E u t → H.size ≤ H1.size → (∀ q : Nat, q < H.size → ¬ AX q → H1[q]? = H[q]?) → va_S A0 H0 H1 locs1 → H1[q9]? = some ce → ce.vm = .none → s.vm.findClass E = some ce.cls → vx_W p l e R s m args below meth c H1 locs1 (cells + mc) (slots + ms) Q (F0 m pc ls rest) q9)
    (kk : ∀ (r : UInt32) (u : S) (t : State) (H1 : Heap) (locs1 : List Loc), t.heap = H1 → s.vm.Alike t.vm → post r u → B u t → H.size ≤ H1.size → (∀ q : Nat, q < H.size → ¬ A1 q → H1[q]? = H[q]?) → va_S A0 H0 H1 locs1 → W p l e R s m args below meth c H1 locs1 (cells + mc) (slots + ms) Q (F0 m (pc + 3) ls (.float r :: rest))) : W p l e R s m args below meth c H locs cells slots Q (F0 m pc ls st0) := by
  intro T hT X
  rcases hr T hT X with ⟨v, st₀, t, T', L, h0, X', hL, e1, e2, ⟨⟨r, u, hv, hp, hb⟩, hF⟩, st⟩ | ⟨q, st₀, t, T', L, E, ce, h0, X', hL, e1, e2, ⟨u, hp, hb, hF⟩, hce, hcv, hcl, st⟩
  · cases hv
    obtain ⟨k1, k2, k3⟩ := vx_keep h0 e1 hS hA hf hL hF
    obtain ⟨t2, a1, b1⟩ := kk r u t T'.heap (locs ++ L) e1.symm (by rw [← e2]; exact X'.warmed.alike) hp hb k1 k2 k3 T' rfl X'
    exact ⟨t2, st t2 a1, b1⟩
  · obtain ⟨k1, k2, k3⟩ := vx_keep h0 e1 hS hAX hf hL hF
    obtain ⟨t2, a1, b1⟩ := kx E ce q u t T'.heap (locs ++ L) e1.symm (by rw [← e2]; exact X'.warmed.alike) hp hb k1 k2 k3 (by rw [e1]; exact hce) hcv hcl T' rfl X'
    exact ⟨t2, st.trans a1, b1⟩
theorem vx_calld {S SX : Type} {post : UInt64 → S → Prop} {px : SX → Prop} {B : S → State → Prop} {BX : String → SX → State → Prop} {AX : Nat → Prop} (hr : vx_Run p l e R s m args below meth c H locs cells slots mc ms (F0 m pc ls st0) rest (va_Qd post B A1 a) (vx_X px BX AX) free) (hS : va_S A0 H0 H locs) (hA : ∀ q, q < H.size → A1 q → A0 q) (hf : ∀ q, free q → A0 q) (hAX : ∀ q, q < H.size → AX q → A0 q)
    (kx : ∀ (E : String) (ce : Cell) (q9 : Addr) (u : SX) (t : State) (H1 : Heap) (locs1 : List Loc), t.heap = H1 → s.vm.Alike t.vm → px u → BX E u t → H.size ≤ H1.size → (∀ q : Nat, q < H.size → ¬ AX q → H1[q]? = H[q]?) → va_S A0 H0 H1 locs1 → H1[q9]? = some ce → ce.vm = .none → s.vm.findClass E = some ce.cls → vx_W p l e R s m args below meth c H1 locs1 (cells + mc) (slots + ms) Q (F0 m pc ls rest) q9)
    (kk : ∀ (r : UInt64) (u : S) (t : State) (H1 : Heap) (locs1 : List Loc), t.heap = H1 → s.vm.Alike t.vm → post r u → B u t → H.size ≤ H1.size → (∀ q : Nat, q < H.size → ¬ A1 q → H1[q]? = H[q]?) → va_S A0 H0 H1 locs1 → W p l e R s m args below meth c H1 locs1 (cells + mc) (slots + ms) Q (F0 m (pc + 3) ls (.double r :: rest))) : W p l e R s m args below meth c H locs cells slots Q (F0 m pc ls st0) := by
  intro T hT X
  rcases hr T hT X with ⟨v, st₀, t, T', L, h0, X', hL, e1, e2, ⟨⟨r, u, hv, hp, hb⟩, hF⟩, st⟩ | ⟨q, st₀, t, T', L, E, ce, h0, X', hL, e1, e2, ⟨u, hp, hb, hF⟩, hce, hcv, hcl, st⟩
  · cases hv
    obtain ⟨k1, k2, k3⟩ := vx_keep h0 e1 hS hA hf hL hF
    obtain ⟨t2, a1, b1⟩ := kk r u t T'.heap (locs ++ L) e1.symm (by rw [← e2]; exact X'.warmed.alike) hp hb k1 k2 k3 T' rfl X'
    exact ⟨t2, st t2 a1, b1⟩
  · obtain ⟨k1, k2, k3⟩ := vx_keep h0 e1 hS hAX hf hL hF
    obtain ⟨t2, a1, b1⟩ := kx E ce q u t T'.heap (locs ++ L) e1.symm (by rw [← e2]; exact X'.warmed.alike) hp hb k1 k2 k3 (by rw [e1]; exact hce) hcv hcl T' rfl X'
    exact ⟨t2, st.trans a1, b1⟩
theorem vx_callv {S SX : Type} {post : S → Prop} {px : SX → Prop} {B : S → State → Prop} {BX : String → SX → State → Prop} {AX : Nat → Prop} (hr : vx_Run p l e R s m args below meth c H locs cells slots mc ms (F0 m pc ls st0) rest (va_Qv post B A1 a) (vx_X px BX AX) free) (hS : va_S A0 H0 H locs) (hA : ∀ q, q < H.size → A1 q → A0 q) (hf : ∀ q, free q → A0 q) (hAX : ∀ q, q < H.size → AX q → A0 q)
    (kx : ∀ (E : String) (ce : Cell) (q9 : Addr) (u : SX) (t : State) (H1 : Heap) (locs1 : List Loc), t.heap = H1 → s.vm.Alike t.vm → px u → BX E u t → H.size ≤ H1.size → (∀ q : Nat, q < H.size → ¬ AX q → H1[q]? = H[q]?) → va_S A0 H0 H1 locs1 → H1[q9]? = some ce → ce.vm = .none → s.vm.findClass E = some ce.cls → vx_W p l e R s m args below meth c H1 locs1 (cells + mc) (slots + ms) Q (F0 m pc ls rest) q9)
    (kk : ∀ (u : S) (t : State) (H1 : Heap) (locs1 : List Loc), t.heap = H1 → s.vm.Alike t.vm → post u → B u t → H.size ≤ H1.size → (∀ q : Nat, q < H.size → ¬ A1 q → H1[q]? = H[q]?) → va_S A0 H0 H1 locs1 → W p l e R s m args below meth c H1 locs1 (cells + mc) (slots + ms) Q (F0 m (pc + 3) ls (rest))) : W p l e R s m args below meth c H locs cells slots Q (F0 m pc ls st0) := by
  intro T hT X
  rcases hr T hT X with ⟨v, st₀, t, T', L, h0, X', hL, e1, e2, ⟨⟨u, hv, hp, hb⟩, hF⟩, st⟩ | ⟨q, st₀, t, T', L, E, ce, h0, X', hL, e1, e2, ⟨u, hp, hb, hF⟩, hce, hcv, hcl, st⟩
  · cases hv
    obtain ⟨k1, k2, k3⟩ := vx_keep h0 e1 hS hA hf hL hF
    obtain ⟨t2, a1, b1⟩ := kk u t T'.heap (locs ++ L) e1.symm (by rw [← e2]; exact X'.warmed.alike) hp hb k1 k2 k3 T' rfl X'
    exact ⟨t2, st t2 a1, b1⟩
  · obtain ⟨k1, k2, k3⟩ := vx_keep h0 e1 hS hAX hf hL hF
    obtain ⟨t2, a1, b1⟩ := kx E ce q u t T'.heap (locs ++ L) e1.symm (by rw [← e2]; exact X'.warmed.alike) hp hb k1 k2 k3 (by rw [e1]; exact hce) hcv hcl T' rfl X'
    exact ⟨t2, st.trans a1, b1⟩
/-- caught by the row x of this method's table; the rows ahead don't take it -/
theorem vx_catch {own name : String} {E : String} {ce : Cell} {q : Addr} (hown : s.vm.findClass own = some m.cls) (pre : List ExceptionTableEntry) (x : ExceptionTableEntry) (suf : List ExceptionTableEntry) (hsplit : c.exceptionTable.toList = pre ++ x :: suf)
    (hpass : ∀ z ∈ pre, covers z pc = false ∨ (z.catchType ≠ 0 ∧ ∃ nm : String, (Cond.classLink own z.catchType nm).before args s = true ∧ va_Nc E nm s)) (hx : covers x pc = true) (h0 : x.catchType ≠ 0)
    (hlink : (Cond.classLink own x.catchType name).before args s = true) (hcast : (Cond.castable E name).before args s = true) (hcell : H[q]? = some ce) (hv : ce.vm = .none) (hcl : s.vm.findClass E = some ce.cls)
    (kk : W p l e R s m args below meth c H locs cells slots Q (F0 m x.handlerPc ls [.ref q])) : vx_W p l e R s m args below meth c H locs cells slots Q (F0 m pc ls rest) q := by
  intro T hT X
  have hpl : e.platform.magicAccessors = ({} : Platform).magicAccessors := by rw [X.admits.platform]
  obtain ⟨c3, c4, hc3, hc4, hasg⟩ := Cond.castable_spec hcast
  cases Option.some.inj (hc3.symm.trans hcl)
  obtain ⟨c5, hc5, hcl5⟩ := Cond.classLink_spec hown hlink e.platform hpl
  cases Option.some.inj (hc4.symm.trans hc5)
  obtain ⟨vm', X', st⟩ := X.thenCaughtThrough q (g := F0 m pc ls rest) rfl (Steps.refl _) (by rw [hT]; exact hcell) (by rw [hv]; rfl) (by obtain ⟨k9, h9, -⟩ := Vm.findClass_spec hcl; exact ⟨k9, h9⟩) pre x suf hsplit
    (fun z hz => by
      rcases hpass z hz with h | ⟨hz0, nm, hl1, hn1⟩
      · exact Or.inl h
      · obtain ⟨c6, hc6, hcl6⟩ := Cond.classLink_spec hown hl1 e.platform hpl
        obtain ⟨a8, b8, h1, h2, h3⟩ := hn1
        cases Option.some.inj (h1.symm.trans hcl)
        cases Option.some.inj (h2.symm.trans hc6)
        exact Or.inr ⟨hz0, _, hcl6, h3⟩) hx (Or.inr ⟨h0, c4, hcl5, hasg⟩)
  obtain ⟨t, a1, b1⟩ := kk (T.setVm vm') hT X'
  exact ⟨t, st.trans a1, b1⟩
end Rows
section Ends
variable {p : Program} {l : Launch} {e : Env} {R : Room} {s : State} {m : MethodId} {args : Array Value} {below : List Frame} {meth : Method} {c : Code} {H : Heap} {locs : List Loc} {cells slots : Nat} {Q : State → Prop}
variable {mc ms : Nat} {free : Addr → Prop} {A0 A1 : Nat → Prop} {H0 : Heap} {a : Array Value} {ls : Array Slot} {st0 rest : List Value}
variable {Qc : Array Value → State → Outcome → State → Prop} {XC : String → State → State → Prop}
/-- what a body that may throw owes at its end -/
def vx_MQ (below : List Frame) (Qc : Array Value → State → Outcome → State → Prop) (XC : String → State → State → Prop) (a : Array Value) (s : State) (mc ms : Nat) (free : Addr → Prop) : State → Prop := fun t =>
  ∃ o, t.status = .running ∧ Ended t below o ∧ vx_Q Qc XC mc ms free a s o t
theorem vx_ret {g : JFrame} {mc ms : Nat} (k : W p l e R s m args below meth c H locs cells slots (MQ below Qc args s mc ms free) g) : W p l e R s m args below meth c H locs cells slots (vx_MQ below Qc XC args s mc ms free) g := by
  intro T hT X
  obtain ⟨t, a1, o, b1, b2, b3, b4⟩ := k T hT X
  exact ⟨t, a1, o, b1, b2, Or.inl ⟨b3, b4⟩⟩
/-- not caught here: it goes on to the caller -/
theorem vx_widen {g : JFrame} {q : Addr} {k n : Nat} (h1 : cells ≤ k) (h2 : slots ≤ n) (kk : vx_W p l e R s m args below meth c H locs k n Q g q) : vx_W p l e R s m args below meth c H locs cells slots Q g q := fun T hT X => kk T hT (stand_widen X h1 h2)
theorem vx_out {pc : Nat} {E : String} {ce : Cell} {q : Addr} {mc ms : Nat} (hout : ∀ x ∈ c.exceptionTable.toList, covers x pc = false) (hlocks : meth.locks = false) (hcell : H[q]? = some ce) (hv : ce.vm = .none) (hcl : s.vm.findClass E = some ce.cls)
    (hx : ∀ t : State, t.heap = H → s.vm.Alike t.vm → XC E s t) (hf : ∀ z ∈ locs, free z.base) (hc : cells ≤ mc) (hs : slots ≤ ms) :
    vx_W p l e R s m args below meth c H locs cells slots (vx_MQ below Qc XC args s mc ms free) (F0 m pc ls rest) q := by
  intro T hT X
  obtain ⟨st1, hrun, hend, hW, hsm⟩ := X.leaveThrown q (g := F0 m pc ls rest) rfl rfl rfl hout hlocks
  have hcell9 : (T.setFrames (.throwing q :: below)).heap[q]? = some ce := by
    show T.heap[q]? = some ce
    rw [hT]; exact hcell
  exact ⟨_, st1, .threw q, hrun, hend, Or.inr ⟨q, rfl, E, ce, locs, hx _ hT hW.alike, hcell9, hv, hcl, hW, hsm.mono hc hs, hf⟩⟩
theorem vx_frame {U : State} {k n : Nat} (h : s.sameButNew ({ U with vm := s.vm } : State) locs k n) : s.heap.size ≤ U.heap.size ∧ ∀ q : Nat, q < s.heap.size → (∀ z ∈ locs, z.base ≠ q) → U.heap[q]? = s.heap[q]? := by
  obtain ⟨-, h2, -, -, -, h6⟩ := h
  refine ⟨h2, fun q hq hz => ?_⟩
  obtain ⟨c9, e1, e2, e3, e4⟩ := h6 q _ (Array.getElem?_eq_getElem hq)
  have hs : c9.slots = (s.heap[q]).slots := Array.ext_getElem? fun i => e4 i fun hm => hz _ hm rfl
  have h9 : c9 = s.heap[q] := by
    rw [hs] at e2
    exact e2
  have e5 : U.heap[q]? = some c9 := e1
  rw [e5, h9, Array.getElem?_eq_getElem hq]
/-- the words of a throw but the four that speak of the heap -/
def vx_no (w : Cond) : Bool := decide (w ≠ .isRef (.static Bundle.tN "UNASSIGNED_STACK" Bundle.steD)) && decide (w ≠ .isRef (.static Bundle.tN "SUPPRESSED_SENTINEL" Bundle.listD)) && decide (w ≠ .laysStatic Bundle.tN "UNASSIGNED_STACK" Bundle.steD) && decide (w ≠ .laysStatic Bundle.tN "SUPPRESSED_SENTINEL" Bundle.listD)
def vx_at0 (own : String) (ic : Nat) (X : String) (names : List String) : List Cond := (Bundle.ownAtoms0 own ic X names).filter vx_no
def vx_atS (own : String) (ic : Nat) (X : String) (names : List String) : List Cond := (Bundle.ownAtoms own ic X names).filter vx_no
/-- a word that the tables alone decide, or a good one -/
def vx_ot (w : Cond) : Bool := w.onTables || goodWord w
theorem vx_ot_at {args a' : Array Value} {s U : State} {w : Cond} (hW : s.WarmedH U.vm) (hvm : s.vm = U.vm) (hg : vx_ot w = true) (h : w.before args s = true) : w.before a' U = true := by
  simp only [vx_ot, Bool.or_eq_true] at hg
  rcases hg with hg | hg
  · exact va_tabs hg hvm h
  · exact word_at hW (good_of_word hg) h
/-- a list's words: the good ones out of the method's own list, the others by premises of their own -/
theorem vx_hat {args : Array Value} {s : State} {L B : List Cond} (h1 : ∀ w ∈ L.filter goodWord, w.before args s = true) (h2 : ∀ w ∈ L.filter (fun w => !goodWord w), w ∈ B) (h3 : ∀ w ∈ B, w.before args s = true) : ∀ w ∈ L, w.before args s = true := by
  intro w hw
  by_cases g : goodWord w = true
  · exact h1 w (List.mem_filter.mpr ⟨hw, g⟩)
  · refine h3 w (h2 w (List.mem_filter.mpr ⟨hw, ?_⟩))
    show (!goodWord w) = true
    cases hgw : goodWord w
    · rfl
    · exact absurd hgw g
theorem vx_c {args : Array Value} {s : State} {w : Cond} {B : List Cond} (h : w.before args s = true) (t : ∀ w ∈ B, w.before args s = true) : ∀ w' ∈ w :: B, w'.before args s = true := fun w' h' => (List.mem_cons.mp h').elim (fun e => by rw [e]; exact h) (t w')
theorem vx_n {args : Array Value} {s : State} : ∀ w ∈ ([] : List Cond), w.before args s = true := fun _ h => nomatch h
theorem vx_own {args : Array Value} {s : State} {L : List Cond} (h1 : ∀ w ∈ L.filter vx_no, w.before args s = true)
    (hU : (Cond.isRef (.static Bundle.tN "UNASSIGNED_STACK" Bundle.steD)).before args s = true) (hN : (Cond.isRef (.static Bundle.tN "SUPPRESSED_SENTINEL" Bundle.listD)).before args s = true)
    (lU : (Cond.laysStatic Bundle.tN "UNASSIGNED_STACK" Bundle.steD).before args s = true) (lN : (Cond.laysStatic Bundle.tN "SUPPRESSED_SENTINEL" Bundle.listD).before args s = true) : ∀ w ∈ L, w.before args s = true := by
  intro w hw
  by_cases e1 : w = .isRef (.static Bundle.tN "UNASSIGNED_STACK" Bundle.steD)
  · rw [e1]; exact hU
  · by_cases e2 : w = .isRef (.static Bundle.tN "SUPPRESSED_SENTINEL" Bundle.listD)
    · rw [e2]; exact hN
    · by_cases e3 : w = .laysStatic Bundle.tN "UNASSIGNED_STACK" Bundle.steD
      · rw [e3]; exact lU
      · by_cases e4 : w = .laysStatic Bundle.tN "SUPPRESSED_SENTINEL" Bundle.listD
        · rw [e4]; exact lN
        · exact h1 w (List.mem_filter.mpr ⟨hw, by unfold vx_no; rw [decide_eq_true e1, decide_eq_true e2, decide_eq_true e3, decide_eq_true e4]; rfl⟩)
/-- where a static field lies, its class's statics cell in H -/
def vx_L (C n d : String) (A : Nat → Prop) (U : State) (H : Heap) : Prop := ∃ (c : ClassId) (k : Class) (i : Nat) (f : Field) (a : Nat) (cell : Cell), U.vm.findClass C = some c ∧ U.fieldFound? C n d = some (c, k, i, f) ∧ f.isStatic = true ∧ k.statics = some a ∧ H[a]? = some cell ∧ cell.vm.isStatics = true ∧ cell.cls = c ∧ f.slot < cell.slots.size ∧ k.staticTypes[f.slot]? = some f.type ∧ ¬ A a
theorem vx_L.moved {C n d : String} {A : Nat → Prop} {u U : State} {H : Heap} (hvm : u.vm.Alike U.vm) (h : vx_L C n d A u H) : vx_L C n d A U H := by
  obtain ⟨c, k, i, f, a, cell, h1, h2, h3, h4, h5, h6, h7, h8, h9, h10⟩ := h
  obtain ⟨k', hi', he⟩ := State.fieldFound?_setVm hvm h2
  exact ⟨c, k', i, f, a, cell, by rw [hvm.findClass]; exact h1, hi', h3, by rw [he]; exact h4, h5, h6, h7, h8, by rw [he]; exact h9, h10⟩
theorem vx_L.kept {C n d : String} {A : Nat → Prop} {U : State} {H H1 : Heap} (h : vx_L C n d A U H) (hq : ∀ a : Nat, a < H.size → ¬ A a → H1[a]? = H[a]?) : vx_L C n d A U H1 := by
  obtain ⟨c, k, i, f, a, cell, h1, h2, h3, h4, h5, h6, h7, h8, h9, h10⟩ := h
  exact ⟨c, k, i, f, a, cell, h1, h2, h3, h4, by rw [hq a (Array.getElem?_eq_some_iff.mp h5).1 h10]; exact h5, h6, h7, h8, h9, h10⟩
theorem vx_L.narrow {C n d : String} {A B : Nat → Prop} {U : State} {H : Heap} (h : vx_L C n d A U H) (hAB : ∀ q, B q → A q) : vx_L C n d B U H := by
  obtain ⟨c, k, i, f, a, cell, h1, h2, h3, h4, h5, h6, h7, h8, h9, h10⟩ := h
  exact ⟨c, k, i, f, a, cell, h1, h2, h3, h4, h5, h6, h7, h8, h9, fun z => h10 (hAB _ z)⟩
theorem vx_L.word {C n d : String} {A : Nat → Prop} {s : State} {args : Array Value} (h : vx_L C n d A s s.heap) : (Cond.laysStatic C n d).before args s = true := by
  obtain ⟨c, k, i, f, a, cell, h1, h2, h3, h4, h5, h6, h7, h8, h9, -⟩ := h
  show (Cond.laysStatic C n d).holds args s none s [] = true
  exact Cond.laysStatic_of h1 h2 h3 h4 h5 h6 h7 h8 h9
/-- .. and what it holds: null or some reference -/
def vx_Zq (C n d : String) (A : Nat → Prop) (U : State) (H : Heap) : Prop := va_Zq C n d A U H ∧ vx_L C n d A U H
theorem vx_Zq.moved {C n d : String} {A : Nat → Prop} {u U : State} {H : Heap} (hvm : u.vm.Alike U.vm) (h : vx_Zq C n d A u H) : vx_Zq C n d A U H := ⟨va_Zq.moved hvm h.1, vx_L.moved hvm h.2⟩
theorem vx_Zq.kept {C n d : String} {A : Nat → Prop} {U : State} {H H1 : Heap} (h : vx_Zq C n d A U H) (hq : ∀ a : Nat, a < H.size → ¬ A a → H1[a]? = H[a]?) : vx_Zq C n d A U H1 := ⟨va_Zq.kept h.1 hq, vx_L.kept h.2 hq⟩
theorem vx_Zq.narrow {C n d : String} {A B : Nat → Prop} {U : State} {H : Heap} (h : vx_Zq C n d A U H) (hAB : ∀ q, B q → A q) : vx_Zq C n d B U H := ⟨va_Zq.narrow h.1 hAB, vx_L.narrow h.2 hAB⟩
theorem vx_Zqof {args : Array Value} {s : State} {C n d : String} {A : Nat → Prop} (hl : (Cond.laysStatic C n d).before args s = true) (hini : (Cond.initialized C).before args s = true) (h : (Cond.isRef (.static C n d)).before args s = true) (hA : ∀ a : Nat, a < s.heap.size → ¬ A a) : vx_Zq C n d A s s.heap := by
  refine ⟨va_Zqof hl hini h hA, ?_⟩
  obtain ⟨c, k, i, f, a, cell, h1, h2, h3, h4, h5, h6, h7, h8, h9⟩ := Cond.laysStatic_spec hl
  exact ⟨c, k, i, f, a, cell, h1, h2, h3, h4, h5, h6, h7, h8, h9, hA a (Array.getElem?_eq_some_iff.mp h5).1⟩
theorem vx_isRef {C n d : String} {v : Value} {A : Nat → Prop} {s : State} {args : Array Value} (h : va_Z C n d v A s s.heap) (hv : v.isRef = true) : (Cond.isRef (.static C n d)).before args s = true := by
  obtain ⟨cf, kf, fi, f, a, cell, h1, h2, h3, h4, h5, h6, h7, -⟩ := h
  have he : (Term.static C n d).eval args s none [] s = some v := by
    simp [Term.eval, State.fieldNamed?, h1, h2, h4, h5, h6, h7]
  simp only [Cond.before, Cond.holds, Cond.value, he]
  cases v <;> simp_all [Value.isRef]
theorem vx_isRefq {C n d : String} {A : Nat → Prop} {s : State} {args : Array Value} (h : va_Zq C n d A s s.heap) : (Cond.isRef (.static C n d)).before args s = true := by
  rcases h with h | ⟨t, h⟩
  · exact vx_isRef h rfl
  · exact vx_isRef h rfl
/-- the same frame, seen from here: as if the method were called anew in this heap -/
theorem vx_rebase {T : State} (X : Stand p l e R s m args below meth c T locs cells slots) {R' : Room} (hf : R'.frames ≤ R.frames) (hl : R'.locals ≤ R.locals) (hc : cells + R'.cells ≤ R.cells) (hs : slots + R'.slots ≤ R.slots) :
    Stand p l e R' ((T.setVm s.vm).setFrames (.invoking m args :: below)) m args below meth c T [] 0 0 := by
  have htop : (T.setVm s.vm).topJava?.isSome := X.here.top
  have hF : ((T.setVm s.vm).setFrames (.invoking m args :: below)).frames = .invoking m args :: below := State.frames_setFrames _ (State.cur_lt_of_top htop)
  obtain ⟨g₀, hg0⟩ := Option.isSome_iff_exists.mp htop
  obtain ⟨r, hr⟩ := State.topJava?_eq_some.mp hg0
  have hl9 : e.platform.stackLimits (T.setVm s.vm).me = e.platform.stackLimits s.me := X.limits
  have hb9 : (T.setVm s.vm).me.stackBytes = s.me.stackBytes := X.bytes
  refine ⟨X.admits, X.cas, X.clock, hF, ?_, X.hears, X.method, X.code, X.here, X.tail, X.warmed, ?_, ?_, ?_⟩
  · have h := X.room
    have hU : ((T.setVm s.vm).setFrames (.invoking m args :: below)).localsInUse = s.localsInUse := by
      rw [State.localsInUse_invoking hF (meth := meth) (c := c) X.method X.code, State.localsInUse_invoking X.frames X.method X.code]
    simp only [State.hasRoom, Bool.and_eq_true, decide_eq_true_eq] at h ⊢
    obtain ⟨⟨⟨⟨h1, h2, h3, h4, h5, h6⟩, h7⟩, h8⟩, h9⟩ := h
    rw [X.frames, List.length_cons] at h2 h3
    have q1 := X.heapSize
    have q2 := X.used
    simp only [hF, hU, List.length_cons, State.stackLimits_setFrames, State.stackBytes_setFrames, hl9, hb9]
    refine ⟨⟨⟨⟨by omega, by omega, by omega, by omega, by omega, h6⟩, ?_⟩, ?_⟩, X.book⟩
    · show T.heap.size + R'.cells ≤ e.platform.maxCells
      omega
    · show T.slotsUsed + R'.slots ≤ e.platform.maxSlots
      omega
  · rw [State.stackLimits_setFrames]; rfl
  · rw [State.stackBytes_setFrames]; rfl
  · refine ⟨?_, Nat.le_refl _, Nat.le_refl _, ?_, ?_, fun a c9 h9 => ⟨c9, h9, rfl, rfl, fun _ _ => rfl⟩⟩
    · obtain ⟨t, ht, -⟩ := State.frames_cons hr
      show T.setVm s.vm = { ((T.setVm s.vm).setFrames (.invoking m args :: below)).setFrames (T.setVm s.vm).frames with heap := T.heap, slotsUsed := T.slotsUsed }
      rw [State.setFrames_setFrames, State.setFrames_self ht]
      rfl
    · show T.slotsUsed = T.slotsUsed + ((T.heap.toList.drop T.heap.size).map (·.slots.size)).sum
      rw [List.drop_eq_nil_of_le (Nat.le_of_eq Array.length_toList)]
      rfl
    · show ((T.heap.toList.drop T.heap.size).map (·.slots.size)).sum ≤ 0
      rw [List.drop_eq_nil_of_le (Nat.le_of_eq Array.length_toList)]
      exact Nat.le_refl _
/-- 'throw new E()': new; dup; invokespecial; athrow -/
theorem vx_throw0 {cc : ByteArray} {pc : Nat} (hexec : p.tables.exec = Jvm.exec) (hb : c.code = cc) (hl : l.stackTraces = false) {own cls : String} {names : List String} {ik ic mc ms : Nat} {A : Nat → Prop}
    (hown : s.vm.findClass own = some m.cls) (hcls : Bundle.fit cls = true) (hnames : ∀ n ∈ names, Bundle.fit n = true)
    (hk : (Cond.classLink own ik cls).before args s = true) (hini : (Cond.initialized cls).before args s = true) (hat : ∀ w ∈ vx_at0 own ic cls names, w.before args s = true)
    (hgood : ∀ w ∈ Cond.classLink own ik cls :: Cond.initialized cls :: vx_at0 own ic cls names, vx_ot w = true)
    (hU : vx_Zq Bundle.tN "UNASSIGNED_STACK" Bundle.steD A s s.heap) (hN : vx_Zq Bundle.tN "SUPPRESSED_SENTINEL" Bundle.listD A s s.heap) (hS : va_S A s.heap H locs) (hsize : ls.size = c.maxLocals)
    (d0 : decode cc pc = .ok (.new ik, 3)) (d3 : decode cc (pc + 3) = .ok (.dup, 1)) (d4 : decode cc (pc + 4) = .ok (.invokespecial ic, 3)) (d7 : decode cc (pc + 7) = .ok (.athrow, 1))
    (hout : ∀ x ∈ c.exceptionTable.toList, covers x (pc + 7) = false)
    (hRframes : names.length + 3 < R.frames) (hRlocals : (rest.map fun v => v.category).sum + (13 * (names.length + 1) + 42) ≤ R.locals) (hRcells : cells + 1 ≤ R.cells) (hRslots : slots + 6 ≤ R.slots) (hlocks : meth.locks = false)
    (hx : ∀ t : State, s.vm.Alike t.vm → H.size ≤ t.heap.size → (∀ q : Nat, q < H.size → t.heap[q]? = H[q]?) → XC cls s t)
    (hf : ∀ z ∈ locs, free z.base) (hc : cells + 1 ≤ mc) (hs : slots + 6 ≤ ms) :
    W p l e R s m args below meth c H locs cells slots (vx_MQ below Qc XC args s mc ms free) (F0 m pc ls rest) := by
  intro T hT X
  have htr : e.platform.stackTraces = false := (show e.platform.stackTraces = l.stackTraces by rw [X.admits.platform]).trans hl
  have Y := vx_rebase X (R' := { frames := R.frames, locals := R.locals, cells := 1, slots := 6 }) (Nat.le_refl _) (Nat.le_refl _) hRcells hRslots
  obtain ⟨s', hA⟩ : ∃ z, z = (T.setVm s.vm).setFrames (.invoking m args :: below) := ⟨_, rfl⟩
  rw [← hA] at Y
  have hvm : s'.vm = s.vm := by rw [hA]; rfl
  have hhp : s'.heap = H := by rw [hA]; exact hT
  have hW0 : s.WarmedH s'.vm := by rw [hvm]; exact State.WarmedH.refl s
  have hat' : ∀ w ∈ vx_at0 own ic cls names, w.before args s' = true := fun w hw => vx_ot_at hW0 hvm.symm (hgood w (List.mem_cons_of_mem _ (List.mem_cons_of_mem _ hw))) (hat w hw)
  have hk' : (Cond.classLink own ik cls).before args s' = true := vx_ot_at hW0 hvm.symm (hgood _ List.mem_cons_self) hk
  have hini' : (Cond.initialized cls).before args s' = true := vx_ot_at hW0 hvm.symm (hgood _ (List.mem_cons_of_mem _ List.mem_cons_self)) hini
  have hU' : vx_Zq Bundle.tN "UNASSIGNED_STACK" Bundle.steD A s' s'.heap := by rw [hhp]; exact vx_Zq.moved hW0.alike (hU.kept hS.2.1)
  have hN' : vx_Zq Bundle.tN "SUPPRESSED_SENTINEL" Bundle.listD A s' s'.heap := by rw [hhp]; exact vx_Zq.moved hW0.alike (hN.kept hS.2.1)
  have h : ∀ w ∈ Bundle.ownAtoms0 own ic cls names, w.before args s' = true := vx_own hat' (vx_isRefq hU'.1) (vx_isRefq hN'.1) hU'.2.word hN'.2.word
  have hown' : s'.vm.findClass own = some m.cls := by rw [hvm]; exact hown
  have hins : (Cond.instantiable cls 6).before args s' = true := h _ (by simp [Bundle.ownAtoms0])
  obtain ⟨vm₁, cX, kX, hfX, hkX, -, -, X₁, st1⟩ := Y.newCold hexec (own := own) (C := cls) (index := ik) (n := 6) hown' hk' hins hini'
    (g := F0 m pc ls rest) rfl (by rw [hb]; exact d0) (Nat.le_refl _) (Nat.le_refl _)
  generalize hT1 : (T.setVm vm₁).pushCell { cls := cX, slots := kX.instanceTypes.map defaultValue, vm := .none } = T1 at X₁ st1
  have hcat : (Value.ref T.heap.size).category = 1 := rfl
  have hcellA : T1.heap[T.heap.size]? = some (freshCell cX kX) := by rw [← hT1]; exact State.heap_pushCell_size _ _
  have d3' : decode c.code (pc + 3) = .ok (.dup, 1) := by rw [hb]; exact d3
  obtain ⟨U, hsteps, hrun, hend, hW, hsame, ce, hce, hO⟩ := X₁.ctorThrow0 hexec htr (own := own) (cls := cls) (names := names) (ic := ic) hown' hcls hnames h (fun x hx => nomatch hx) hfX hkX hcellA (by rw [hhp, hT]; exact Nat.le_refl _)
    (g := { method := m, pc := pc + 4, locals := ls, stack := .ref T.heap.size :: .ref T.heap.size :: rest, locked := none }) rfl hsize rfl rfl (rest := rest) rfl
    (by rw [hb]; exact d4) (by rw [hb]; exact d7) hout hRframes (by simp only [List.map_cons, List.sum_cons, hcat]; omega) hlocks
  obtain ⟨f1, f2⟩ := vx_frame hsame
  rw [hhp] at f1 f2
  have hWs : s.WarmedH U.vm := State.WarmedH.trans hW0 hW
  have hcl : s.vm.findClass cls = some ce.cls := by
    have h9 := hO.cls
    rw [hvm] at h9
    exact h9
  have hall : s.sameButNew ({ U with vm := s.vm } : State) locs mc ms := by
    subst hA
    obtain ⟨e1, e2⟩ := hsame
    rw [State.setFrames_setFrames] at e1
    have h2 : (T.setVm s.vm).sameButNew ({ U with vm := s.vm } : State) [] (0 + 1) (0 + 6) := ⟨e1, e2⟩
    have h3 := X.same.trans h2
    rw [List.append_nil] at h3
    exact h3.mono hc hs
  refine ⟨U, ?_, .threw T.heap.size, hrun, hend, Or.inr ⟨T.heap.size, rfl, cls, ce, locs, hx U hWs.alike f1 (fun q hq => f2 q hq (fun z hz => nomatch hz)), hce, hO.vm, hcl, hWs, hall, hf⟩⟩
  refine st1 _ ?_
  show Steps p.tables e below (T1.setTop { method := m, pc := pc + 3, locals := ls, stack := .ref T.heap.size :: rest, locked := none }) _
  jvm_step X₁.here [X₁.here.top, hexec, d3', Value.category]
  exact hsteps
/-- 'throw new E("text")': new; dup; ldc; invokespecial; athrow -/
theorem vx_throwS {cc : ByteArray} {pc : Nat} (hexec : p.tables.exec = Jvm.exec) (hb : c.code = cc) (hl : l.stackTraces = false) {own cls text : String} {names : List String} {ik is ic mc ms sa : Nat} {A : Nat → Prop}
    (hown : s.vm.findClass own = some m.cls) (hcls : Bundle.fit cls = true) (hnames : ∀ n ∈ names, Bundle.fit n = true)
    (hk : (Cond.classLink own ik cls).before args s = true) (hini : (Cond.initialized cls).before args s = true) (hstr : vk_R own is text sa s) (hat : ∀ w ∈ vx_atS own ic cls names, w.before args s = true)
    (hgood : ∀ w ∈ Cond.classLink own ik cls :: Cond.initialized cls :: vx_atS own ic cls names, vx_ot w = true)
    (hU : vx_Zq Bundle.tN "UNASSIGNED_STACK" Bundle.steD A s s.heap) (hN : vx_Zq Bundle.tN "SUPPRESSED_SENTINEL" Bundle.listD A s s.heap) (hS : va_S A s.heap H locs) (hsize : ls.size = c.maxLocals)
    (d0 : decode cc pc = .ok (.new ik, 3)) (d3 : decode cc (pc + 3) = .ok (.dup, 1)) (d4 : decode cc (pc + 4) = .ok (.ldc is, 2)) (d6 : decode cc (pc + 6) = .ok (.invokespecial ic, 3)) (d9 : decode cc (pc + 9) = .ok (.athrow, 1))
    (hout : ∀ x ∈ c.exceptionTable.toList, covers x (pc + 9) = false)
    (hRframes : names.length + 3 < R.frames) (hRlocals : (rest.map fun v => v.category).sum + (13 * (names.length + 1) + 43) ≤ R.locals) (hRcells : cells + 1 ≤ R.cells) (hRslots : slots + 6 ≤ R.slots) (hlocks : meth.locks = false)
    (hx : ∀ t : State, s.vm.Alike t.vm → H.size ≤ t.heap.size → (∀ q : Nat, q < H.size → t.heap[q]? = H[q]?) → XC cls s t)
    (hf : ∀ z ∈ locs, free z.base) (hc : cells + 1 ≤ mc) (hs : slots + 6 ≤ ms) :
    W p l e R s m args below meth c H locs cells slots (vx_MQ below Qc XC args s mc ms free) (F0 m pc ls rest) := by
  intro T hT X
  have htr : e.platform.stackTraces = false := (show e.platform.stackTraces = l.stackTraces by rw [X.admits.platform]).trans hl
  have Y := vx_rebase X (R' := { frames := R.frames, locals := R.locals, cells := 1, slots := 6 }) (Nat.le_refl _) (Nat.le_refl _) hRcells hRslots
  obtain ⟨s', hA⟩ : ∃ z, z = (T.setVm s.vm).setFrames (.invoking m args :: below) := ⟨_, rfl⟩
  rw [← hA] at Y
  have hvm : s'.vm = s.vm := by rw [hA]; rfl
  have hhp : s'.heap = H := by rw [hA]; exact hT
  have hW0 : s.WarmedH s'.vm := by rw [hvm]; exact State.WarmedH.refl s
  have hat' : ∀ w ∈ vx_atS own ic cls names, w.before args s' = true := fun w hw => vx_ot_at hW0 hvm.symm (hgood w (List.mem_cons_of_mem _ (List.mem_cons_of_mem _ hw))) (hat w hw)
  have hk' : (Cond.classLink own ik cls).before args s' = true := vx_ot_at hW0 hvm.symm (hgood _ List.mem_cons_self) hk
  have hini' : (Cond.initialized cls).before args s' = true := vx_ot_at hW0 hvm.symm (hgood _ (List.mem_cons_of_mem _ List.mem_cons_self)) hini
  have hU' : vx_Zq Bundle.tN "UNASSIGNED_STACK" Bundle.steD A s' s'.heap := by rw [hhp]; exact vx_Zq.moved hW0.alike (hU.kept hS.2.1)
  have hN' : vx_Zq Bundle.tN "SUPPRESSED_SENTINEL" Bundle.listD A s' s'.heap := by rw [hhp]; exact vx_Zq.moved hW0.alike (hN.kept hS.2.1)
  have h : ∀ w ∈ Bundle.ownAtoms own ic cls names, w.before args s' = true := vx_own hat' (vx_isRefq hU'.1) (vx_isRefq hN'.1) hU'.2.word hN'.2.word
  have hown' : s'.vm.findClass own = some m.cls := by rw [hvm]; exact hown
  have hins : (Cond.instantiable cls 6).before args s' = true := h _ (by simp [Bundle.ownAtoms])
  obtain ⟨vm₁, cX, kX, hfX, hkX, -, -, X₁, st1⟩ := Y.newCold hexec (own := own) (C := cls) (index := ik) (n := 6) hown' hk' hins hini'
    (g := F0 m pc ls rest) rfl (by rw [hb]; exact d0) (Nat.le_refl _) (Nat.le_refl _)
  generalize hT1 : (T.setVm vm₁).pushCell { cls := cX, slots := kX.instanceTypes.map defaultValue, vm := .none } = T1 at X₁ st1
  have hcat : (Value.ref T.heap.size).category = 1 := rfl
  have hcellA : T1.heap[T.heap.size]? = some (freshCell cX kX) := by rw [← hT1]; exact State.heap_pushCell_size _ _
  have d3' : decode c.code (pc + 3) = .ok (.dup, 1) := by rw [hb]; exact d3
  have d4' : decode c.code (pc + 4) = .ok (.ldc is, 2) := by rw [hb]; exact d4
  have hstr' : vk_R own is text sa s' := vk_R.warm hW0 hstr
  obtain ⟨U, hsteps, hrun, hend, hW, hsame, ce, hce, hO⟩ := X₁.ctorThrowS hexec htr (own := own) (cls := cls) (names := names) (ic := ic) hown' hcls hnames h (fun x hx => nomatch hx) hfX hkX hcellA (by rw [hhp, hT]; exact Nat.le_refl _) (msg := .ref sa) rfl
    (g := { method := m, pc := pc + 6, locals := ls, stack := .ref sa :: .ref T.heap.size :: .ref T.heap.size :: rest, locked := none }) rfl hsize rfl rfl (rest := rest) rfl
    (by rw [hb]; exact d6) (by rw [hb]; exact d9) hout hRframes (by simp only [List.map_cons, List.sum_cons, hcat]; omega) hlocks
  obtain ⟨f1, f2⟩ := vx_frame hsame
  rw [hhp] at f1 f2
  have hWs : s.WarmedH U.vm := State.WarmedH.trans hW0 hW
  have hcl : s.vm.findClass cls = some ce.cls := by
    have h9 := hO.cls
    rw [hvm] at h9
    exact h9
  have hall : s.sameButNew ({ U with vm := s.vm } : State) locs mc ms := by
    subst hA
    obtain ⟨e1, e2⟩ := hsame
    rw [State.setFrames_setFrames] at e1
    have h2 : (T.setVm s.vm).sameButNew ({ U with vm := s.vm } : State) [] (0 + 1) (0 + 6) := ⟨e1, e2⟩
    have h3 := X.same.trans h2
    rw [List.append_nil] at h3
    exact h3.mono hc hs
  refine ⟨U, ?_, .threw T.heap.size, hrun, hend, Or.inr ⟨T.heap.size, rfl, cls, ce, locs, hx U hWs.alike f1 (fun q hq => f2 q hq (fun z hz => nomatch hz)), hce, hO.vm, hcl, hWs, hall, hf⟩⟩
  refine st1 _ ?_
  show Steps p.tables e below (T1.setTop { method := m, pc := pc + 3, locals := ls, stack := .ref T.heap.size :: rest, locked := none }) _
  jvm_step X₁.here [X₁.here.top, hexec, d3', Value.category]
  exact X₁.ldcString hexec (own := own) (text := text) (index := is) (a := sa) hown' hstr'.1 hstr'.2
    (g := { method := m, pc := pc + 4, locals := ls, stack := .ref T.heap.size :: .ref T.heap.size :: rest, locked := none }) rfl d4' _ hsteps
/-- 'throw new E("text")', the text by a wide index -/
theorem vx_throwSW {cc : ByteArray} {pc : Nat} (hexec : p.tables.exec = Jvm.exec) (hb : c.code = cc) (hl : l.stackTraces = false) {own cls text : String} {names : List String} {ik is ic mc ms sa : Nat} {A : Nat → Prop}
    (hown : s.vm.findClass own = some m.cls) (hcls : Bundle.fit cls = true) (hnames : ∀ n ∈ names, Bundle.fit n = true)
    (hk : (Cond.classLink own ik cls).before args s = true) (hini : (Cond.initialized cls).before args s = true) (hstr : vk_R own is text sa s) (hat : ∀ w ∈ vx_atS own ic cls names, w.before args s = true)
    (hgood : ∀ w ∈ Cond.classLink own ik cls :: Cond.initialized cls :: vx_atS own ic cls names, vx_ot w = true)
    (hU : vx_Zq Bundle.tN "UNASSIGNED_STACK" Bundle.steD A s s.heap) (hN : vx_Zq Bundle.tN "SUPPRESSED_SENTINEL" Bundle.listD A s s.heap) (hS : va_S A s.heap H locs) (hsize : ls.size = c.maxLocals)
    (d0 : decode cc pc = .ok (.new ik, 3)) (d3 : decode cc (pc + 3) = .ok (.dup, 1)) (d4 : decode cc (pc + 4) = .ok (.ldc_w is, 3)) (d7 : decode cc (pc + 7) = .ok (.invokespecial ic, 3)) (d10 : decode cc (pc + 10) = .ok (.athrow, 1))
    (hout : ∀ x ∈ c.exceptionTable.toList, covers x (pc + 10) = false)
    (hRframes : names.length + 3 < R.frames) (hRlocals : (rest.map fun v => v.category).sum + (13 * (names.length + 1) + 43) ≤ R.locals) (hRcells : cells + 1 ≤ R.cells) (hRslots : slots + 6 ≤ R.slots) (hlocks : meth.locks = false)
    (hx : ∀ t : State, s.vm.Alike t.vm → H.size ≤ t.heap.size → (∀ q : Nat, q < H.size → t.heap[q]? = H[q]?) → XC cls s t)
    (hf : ∀ z ∈ locs, free z.base) (hc : cells + 1 ≤ mc) (hs : slots + 6 ≤ ms) :
    W p l e R s m args below meth c H locs cells slots (vx_MQ below Qc XC args s mc ms free) (F0 m pc ls rest) := by
  intro T hT X
  have htr : e.platform.stackTraces = false := (show e.platform.stackTraces = l.stackTraces by rw [X.admits.platform]).trans hl
  have Y := vx_rebase X (R' := { frames := R.frames, locals := R.locals, cells := 1, slots := 6 }) (Nat.le_refl _) (Nat.le_refl _) hRcells hRslots
  obtain ⟨s', hA⟩ : ∃ z, z = (T.setVm s.vm).setFrames (.invoking m args :: below) := ⟨_, rfl⟩
  rw [← hA] at Y
  have hvm : s'.vm = s.vm := by rw [hA]; rfl
  have hhp : s'.heap = H := by rw [hA]; exact hT
  have hW0 : s.WarmedH s'.vm := by rw [hvm]; exact State.WarmedH.refl s
  have hat' : ∀ w ∈ vx_atS own ic cls names, w.before args s' = true := fun w hw => vx_ot_at hW0 hvm.symm (hgood w (List.mem_cons_of_mem _ (List.mem_cons_of_mem _ hw))) (hat w hw)
  have hk' : (Cond.classLink own ik cls).before args s' = true := vx_ot_at hW0 hvm.symm (hgood _ List.mem_cons_self) hk
  have hini' : (Cond.initialized cls).before args s' = true := vx_ot_at hW0 hvm.symm (hgood _ (List.mem_cons_of_mem _ List.mem_cons_self)) hini
  have hU' : vx_Zq Bundle.tN "UNASSIGNED_STACK" Bundle.steD A s' s'.heap := by rw [hhp]; exact vx_Zq.moved hW0.alike (hU.kept hS.2.1)
  have hN' : vx_Zq Bundle.tN "SUPPRESSED_SENTINEL" Bundle.listD A s' s'.heap := by rw [hhp]; exact vx_Zq.moved hW0.alike (hN.kept hS.2.1)
  have h : ∀ w ∈ Bundle.ownAtoms own ic cls names, w.before args s' = true := vx_own hat' (vx_isRefq hU'.1) (vx_isRefq hN'.1) hU'.2.word hN'.2.word
  have hown' : s'.vm.findClass own = some m.cls := by rw [hvm]; exact hown
  have hins : (Cond.instantiable cls 6).before args s' = true := h _ (by simp [Bundle.ownAtoms])
  obtain ⟨vm₁, cX, kX, hfX, hkX, -, -, X₁, st1⟩ := Y.newCold hexec (own := own) (C := cls) (index := ik) (n := 6) hown' hk' hins hini'
    (g := F0 m pc ls rest) rfl (by rw [hb]; exact d0) (Nat.le_refl _) (Nat.le_refl _)
  generalize hT1 : (T.setVm vm₁).pushCell { cls := cX, slots := kX.instanceTypes.map defaultValue, vm := .none } = T1 at X₁ st1
  have hcat : (Value.ref T.heap.size).category = 1 := rfl
  have hcellA : T1.heap[T.heap.size]? = some (freshCell cX kX) := by rw [← hT1]; exact State.heap_pushCell_size _ _
  have d3' : decode c.code (pc + 3) = .ok (.dup, 1) := by rw [hb]; exact d3
  have d4' : decode c.code (pc + 4) = .ok (.ldc_w is, 3) := by rw [hb]; exact d4
  have hstr' : vk_R own is text sa s' := vk_R.warm hW0 hstr
  obtain ⟨U, hsteps, hrun, hend, hW, hsame, ce, hce, hO⟩ := X₁.ctorThrowS hexec htr (own := own) (cls := cls) (names := names) (ic := ic) hown' hcls hnames h (fun x hx => nomatch hx) hfX hkX hcellA (by rw [hhp, hT]; exact Nat.le_refl _) (msg := .ref sa) rfl
    (g := { method := m, pc := pc + 7, locals := ls, stack := .ref sa :: .ref T.heap.size :: .ref T.heap.size :: rest, locked := none }) rfl hsize rfl rfl (rest := rest) rfl
    (by rw [hb]; exact d7) (by rw [hb]; exact d10) hout hRframes (by simp only [List.map_cons, List.sum_cons, hcat]; omega) hlocks
  obtain ⟨f1, f2⟩ := vx_frame hsame
  rw [hhp] at f1 f2
  have hWs : s.WarmedH U.vm := State.WarmedH.trans hW0 hW
  have hcl : s.vm.findClass cls = some ce.cls := by
    have h9 := hO.cls
    rw [hvm] at h9
    exact h9
  have hall : s.sameButNew ({ U with vm := s.vm } : State) locs mc ms := by
    subst hA
    obtain ⟨e1, e2⟩ := hsame
    rw [State.setFrames_setFrames] at e1
    have h2 : (T.setVm s.vm).sameButNew ({ U with vm := s.vm } : State) [] (0 + 1) (0 + 6) := ⟨e1, e2⟩
    have h3 := X.same.trans h2
    rw [List.append_nil] at h3
    exact h3.mono hc hs
  refine ⟨U, ?_, .threw T.heap.size, hrun, hend, Or.inr ⟨T.heap.size, rfl, cls, ce, locs, hx U hWs.alike f1 (fun q hq => f2 q hq (fun z hz => nomatch hz)), hce, hO.vm, hcl, hWs, hall, hf⟩⟩
  refine st1 _ ?_
  show Steps p.tables e below (T1.setTop { method := m, pc := pc + 3, locals := ls, stack := .ref T.heap.size :: rest, locked := none }) _
  jvm_step X₁.here [X₁.here.top, hexec, d3', Value.category]
  exact X₁.ldcStringW hexec (own := own) (text := text) (index := is) (a := sa) hown' hstr'.1 hstr'.2
    (g := { method := m, pc := pc + 4, locals := ls, stack := .ref T.heap.size :: .ref T.heap.size :: rest, locked := none }) rfl d4' _ hsteps
end Ends
section Bodies
variable {l : Launch}
theorem vx_ofW {y : MethodName} {ws ws' : List Cond} {rm : Room} {Pc : Array Value → State → Prop} {Qc : Array Value → State → Outcome → State → Prop} {XC : String → State → State → Prop} {mc ms : Nat} {free : Addr → Prop} {cc : ByteArray} {maxL : Nat} {ret : Option FieldType}
    (hy : plainName y.cls = true) (hw : ws = Cond.code y cc maxL ret :: ws')
    (body : ∀ p e s m args below meth c s₁, BodyLoose p l y (headSpec ws rm) cc maxL ret e s m args below meth c s₁ → c.maxLocals = maxL → (∀ x ∈ c.exceptionTable.toList, False) → Pc args s →
      W p l e (headSpec ws rm).room s m args below meth c s.heap [] 0 0 (vx_MQ below Qc XC args s mc ms free) (entryFrame m args maxL)) : vx_Met l y ws rm Pc Qc XC mc ms free := by
  refine MetFree.of_bodyS (code := cc) (maxLocals := maxL) (ret := ret) hy ?_ ?_
  · intro args s m h hn
    obtain ⟨meth, c, h1, h2, h3, h4, h5, h6, -, -⟩ := Cond.code_spec hn (atoms_spec (ws := ws) h _ (by rw [hw]; exact List.mem_cons_self))
    exact ⟨meth, c, h1, h2, h3, h4, h5, h6⟩
  · intro p e s m args below meth c s₁ B hml hP _
    have hh0 : s₁.heap = s.heap := by rw [B.state]; rfl
    have ht : ∀ x ∈ c.exceptionTable.toList, False := by
      obtain ⟨meth9, c9, h1, h2, -, -, -, -, h7, -⟩ := Cond.code_spec B.named (atoms_spec (ws := ws) B.pre _ (by rw [hw]; exact List.mem_cons_self))
      cases Option.some.inj (h1.symm.trans B.method)
      cases Option.some.inj (h2.symm.trans (Stand.of_body B).code)
      intro x hx
      rw [Array.isEmpty_iff.mp h7] at hx
      cases hx
    obtain ⟨t, a1, o, b1, b2, b3⟩ := body p e s m args below meth c s₁ B hml ht hP s₁ hh0 (Stand.of_body B)
    exact ⟨t, o, a1, b1, b2, b3⟩
/-- the table of a body with handlers -/
theorem vx_table {p : Program} {x y : MethodName} {S : Spec} {cc bytes : ByteArray} {maxL maxL' : Nat} {ret ret' : Option FieldType} {e : Env} {s s₁ : State} {m : MethodId} {args : Array Value} {below : List Frame} {meth : Method} {c : Code} {hh : List (Nat × Nat × Nat × Nat)}
    (B : BodyLoose p l y S cc maxL ret e s m args below meth c s₁) (h : (Cond.codeWith y bytes maxL' ret' hh).before args s = true) : c.exceptionTable.toList = tableOf hh := by
  obtain ⟨m9, meth9, c9, hn9, h1, h2, -, -, h6, -⟩ := Cond.codeWith_spec h
  cases Option.some.inj (hn9.symm.trans B.named)
  cases Option.some.inj (h1.symm.trans B.method)
  cases Option.some.inj (h2.symm.trans (Stand.of_body B).code)
  rw [← h6, table_eq]
end Bodies
end VXA
/-! ===== END ===== -/
/-! ===== BEGIN a static call of a method with an exception table ===== -/
section VXS
variable {p : Program} {l : Launch} {e : Env} {R : Room} {s : State} {m : MethodId} {args : Array Value} {below : List Frame} {meth : Method} {c : Code} {T : State} {H : Heap} {locs : List Loc} {cells slots : Nat}
abbrev vx_CSW (R : Room) (s : State) (args : Array Value) (own : String) (index : Nat) (y : MethodName) (bytes : ByteArray) (maxL : Nat) (ret : Option FieldType) (hh : List (Nat × Nat × Nat × Nat)) (ws : List Cond) (rm : Room) (mc ms n : Nat) : Prop :=
  (rm.cells = mc ∧ rm.slots = ms ∧ rm.frames + 1 ≤ R.frames ∧ 8 + (maxL + 11) + rm.locals ≤ R.locals ∧ (∀ w ∈ ws, ∀ (a' : Array Value) (U : State), s.WarmedH U.vm → w.before a' U = true) ∧ Cond.codeWith y bytes maxL ret hh ∈ ws) ∧
  (Cond.codeWith y bytes maxL ret hh).before args s = true ∧ (Cond.initialized y.cls).before args s = true ∧ (y.cls ≠ "java/lang/invoke/MethodHandle" ∧ y.cls ≠ "java/lang/invoke/VarHandle") ∧
  (∀ sig, parseMethodDescriptor y.desc = some sig → n = sig.parameters.length) ∧ (Cond.methodLink own index y).before args s = true ∧ (Cond.static y).before args s = true
theorem vx_cwSW {own : String} {index maxL mc ms : Nat} {y : MethodName} {bytes : ByteArray} {ret : Option FieldType} {hh : List (Nat × Nat × Nat × Nat)} {Ts ws ws' : List Cond} {rm : Room} (n : Nat) (ht : ∀ w ∈ Ts, w.before args s = true) (hT : GoodIn Ts (va_wsS own index y ws)) (hw : ws = Cond.codeWith y bytes maxL ret hh :: ws') (hrc : rm.cells = mc) (hrs : rm.slots = ms)
    (hd : y.cls ≠ "java/lang/invoke/MethodHandle" ∧ y.cls ≠ "java/lang/invoke/VarHandle" ∧ (parseMethodDescriptor y.desc).map (fun d => d.parameters.length) = some n) (hR : rm.frames + 1 ≤ R.frames ∧ 8 + (maxL + 11) + rm.locals ≤ R.locals) :
    vx_CSW R s args own index y bytes maxL ret hh ws rm mc ms n := by
  have ok : ∀ w ∈ va_wsS own index y ws, w.before args s = true := fun w h => ht w (hT w h).1
  have hG : GoodIn Ts ws := fun w h => hT w (by unfold va_wsS; exact List.mem_append_right _ h)
  have hc : Cond.codeWith y bytes maxL ret hh ∈ ws := by rw [hw]; exact List.mem_cons_self
  refine ⟨⟨hrc, hrs, hR.1, hR.2, pay_in ht hG, hc⟩, ht _ (hG _ hc).1, ok _ (by simp [va_wsS]), ⟨hd.1, hd.2.1⟩, fun sig h => ?_, ok _ (by simp [va_wsS]), ok _ (by simp [va_wsS])⟩
  have h2 := hd.2.2
  rw [h] at h2
  exact (Option.some.inj h2).symm
theorem vx_callSW (X : Stand p l e R s m args below meth c T locs cells slots) (hexec : p.tables.exec = Jvm.exec) {own : String} {index : Nat} {y : MethodName} {bytes : ByteArray} {maxL : Nat} {ret : Option FieldType} {hh : List (Nat × Nat × Nat × Nat)}
    (hown : s.vm.findClass own = some m.cls) (hlink : (Cond.methodLink own index y).before args s = true) (hstat : (Cond.static y).before args s = true) (hinit : (Cond.initialized y.cls).before args s = true)
    (hcode : (Cond.codeWith y bytes maxL ret hh).before args s = true) (hy : y.cls ≠ "java/lang/invoke/MethodHandle" ∧ y.cls ≠ "java/lang/invoke/VarHandle")
    {W9 : Nat} {Pre : Pt → Array Value → Prop} {Post : Pt → Array Value → Option Value → Pt → Prop} (hK : Back l R p e below s args y 3 W9 Pre Post)
    {g : JFrame} (hg : g.method = m) (hsize : g.locals.size = c.maxLocals) {argsL rest : List Value} (hlen : ∀ sig, parseMethodDescriptor y.desc = some sig → argsL.length = sig.parameters.length)
    (hstack : g.stack = argsL.reverse ++ rest) (hW : 2 * g.monitorRoom + (rest.map fun v => v.category).sum ≤ W9) (hdg : decode c.code g.pc = .ok (.invokestatic index, 3))
    (hpre : ∀ vm₁, s.WarmedH vm₁ → Pre ⟨T.setVm vm₁, locs, cells, slots⟩ argsL.toArray) :
    ∃ (v : Option Value) (vm₁ : Vm) (B : Pt), s.WarmedH vm₁ ∧ Stand p l e R s m args below meth c B.U B.locs B.cells B.slots ∧ Post ⟨T.setVm vm₁, locs, cells, slots⟩ argsL.toArray v B ∧
      ∀ target, Steps p.tables e below (B.U.setTop { g with pc := g.pc + 3, stack := v.toList ++ rest }) target → Steps p.tables e below (T.setTop g) target := by
  obtain ⟨mk, methM, cM, hnamed, hmethM, -, -, -, -, -, -, hsigM⟩ := Cond.codeWith_spec hcode
  have hstatic : methM.isStatic = true := Cond.static_spec hnamed hmethM hstat
  obtain ⟨kP, hkP, -⟩ := className_of_methodNamed hnamed
  have hinitP : kP.init = .initialized := Cond.initialized_spec (findClass_of_methodNamed hnamed) hkP hinit
  obtain ⟨vm₁, X₁, hstep₁⟩ := X.invokestatic hexec hown hlink hnamed hmethM hstatic hkP hinitP hy (g := g) hg (argsL := argsL) (rest := rest) (hlen _ hsigM) hstack hdg
  obtain ⟨v, B, X', hpost, hsteps⟩ := hK m meth c ⟨T.setVm vm₁, locs, cells, slots⟩ { g with stack := rest } (.invokestatic index) mk argsL.toArray X₁ hg hsize hdg hW (X₁.named hnamed) (hpre vm₁ X₁.warmed)
  exact ⟨v, vm₁, B, X₁.warmed, X', hpost, fun target h => hstep₁ _ fun acts => by rw [doInvoke_state]; exact hsteps.trans h⟩
theorem vx_runSW {y : MethodName} {bytes cc : ByteArray} {maxL nL mc ms n index : Nat} {ret : Option FieldType} {hh : List (Nat × Nat × Nat × Nat)} {ws : List Cond} {rm : Room} {Pc : Array Value → State → Prop} {Qc : Array Value → State → Outcome → State → Prop} {free : Addr → Prop} {Ts : List Cond} {own : String} {As rest : List Value} {g : JFrame}
    (S : CallFix p m c cc nL s args Ts own) (hM : Met l y ws rm Pc Qc mc ms free) (cw : vx_CSW R s args own index y bytes maxL ret hh ws rm mc ms n) (hp : PreS s H Pc As)
    (hg : g.method = m) (hn : As.length = n) (hsize : g.locals.size = nL) (hstack : g.stack = As.reverse ++ rest) (hW : 2 * g.monitorRoom + (rest.map fun v => v.category).sum ≤ 8) (hdg : decode cc g.pc = .ok (.invokestatic index, 3)) (hf : cells + mc ≤ R.cells ∧ slots + ms ≤ R.slots) :
    va_Run p l e R s m args below meth c H locs cells slots mc ms g rest (Qc As.toArray) (free) := by
  obtain ⟨⟨hrc, hrs, hfr, hlo, hws, hcw⟩, hcode, hini, hy, hlen, hl, hstt⟩ := cw
  have hK : Back l R p e below s args y 3 8 (PreOf R mc ms Pc) (PostOf Qc mc ms free) := va_backW (hh := hh) (bytes := bytes) (maxL := maxL) (ret := ret) hM hp.1 hrc hrs hfr hlo hws hcw (fun a' U hW => word_at hW (Or.inl (by first | rfl | simp [Cond.onTables, Cond.keeps, Cond.steady])) hini)
  obtain ⟨hx, hb, hml, ho, -⟩ := S
  intro T hT X
  obtain ⟨v, vm₁, ⟨U', l2, c2, s2⟩, hW₁, X', ⟨g', mk, t, L, e1, e2, hq, h1, hL, h2, h3⟩, st⟩ := vx_callSW X hx (hh := hh) (bytes := bytes) (maxL := maxL) (ret := ret) ho hl hstt hini hcode hy hK hg (hsize.trans hml.symm) (argsL := As) (rest := rest) (fun sig h => hn.trans (hlen sig h)) hstack hW (by rw [hb]; exact hdg)
    (fun vm₁ hW₁ => ⟨hf.1, hf.2, hp.2 (T.setVm vm₁) hT hW₁⟩)
  dsimp only [Pt.U, Pt.locs, Pt.cells, Pt.slots] at X' e1 e2 h1 h2 h3 st
  subst h1; subst h2; subst h3
  exact ⟨v, (T.setVm vm₁).calling g' mk As.toArray, t, U', L, hT, X', hL, e1, e2, hq, st⟩
/-- not caught here, past rows that name other classes: it goes on to the caller -/
theorem vx_outP {p : Program} {l : Launch} {e : Env} {R : Room} {s : State} {m : MethodId} {args : Array Value} {below : List Frame} {meth : Method} {c : Code} {H : Heap} {locs : List Loc} {cells slots : Nat} {free : Addr → Prop} {ls : Array Slot} {rest : List Value} {Qc : Array Value → State → Outcome → State → Prop} {XC : String → State → State → Prop}
    {pc : Nat} {own E : String} {ce : Cell} {q : Addr} {mc ms : Nat} (hown : s.vm.findClass own = some m.cls) (hlocks : meth.locks = false)
    (hpass : ∀ z ∈ c.exceptionTable.toList, covers z pc = false ∨ (z.catchType ≠ 0 ∧ ∃ nm : String, (Cond.classLink own z.catchType nm).before args s = true ∧ va_Nc E nm s)) (hcell : H[q]? = some ce) (hv : ce.vm = .none) (hcl : s.vm.findClass E = some ce.cls)
    (hx : ∀ t : State, t.heap = H → s.vm.Alike t.vm → XC E s t) (hf : ∀ z ∈ locs, free z.base) (hc : cells ≤ mc) (hs : slots ≤ ms) :
    vx_W p l e R s m args below meth c H locs cells slots (vx_MQ below Qc XC args s mc ms free) (F0 m pc ls rest) q := by
  intro T hT X
  have hpl : e.platform.magicAccessors = ({} : Platform).magicAccessors := by rw [X.admits.platform]
  obtain ⟨vm', hW', X', st⟩ := X.outThrough hlocks q (g := F0 m pc ls rest) rfl rfl rfl (cell := ce) (by rw [hT]; exact hcell) (by rw [hv]; rfl)
    (by obtain ⟨k9, h9, -⟩ := Vm.findClass_spec hcl; exact ⟨k9, h9⟩) (fun z hz => by
      rcases hpass z hz with h | ⟨hz0, nm, hl1, hn1⟩
      · exact Or.inl h
      · obtain ⟨c6, hc6, hcl6⟩ := Cond.classLink_spec hown hl1 e.platform hpl
        obtain ⟨a8, b8, h1, h2, h3⟩ := hn1
        cases Option.some.inj (h1.symm.trans hcl)
        cases Option.some.inj (h2.symm.trans hc6)
        exact Or.inr ⟨hz0, _, hcl6, h3⟩)
  obtain ⟨g₀, hfr⟩ := X'.frames_eq
  have hcell9 : ((T.setVm vm').setFrames (.throwing q :: below)).heap[q]? = some ce := by
    show T.heap[q]? = some ce
    rw [hT]; exact hcell
  have hend : Ended ((T.setVm vm').setFrames (.throwing q :: below)) below (.threw q) := State.frames_setFrames _ (State.cur_lt_of_frames hfr)
  refine ⟨(T.setVm vm').setFrames (.throwing q :: below), ?_, .threw q, X'.here.running, hend, Or.inr ⟨q, rfl, E, ce, locs, hx _ hT (X'.ends _).1.alike, hcell9, hv, hcl, (X'.ends _).1, (X'.ends _).2.mono hc hs, hf⟩⟩
  rw [X.pushThrowing_eq]
  exact st
/-- a thing of a world lies in the heap -/
theorem vx_lt {D : va_G} {cl : List vw_C} {ws : va_W} {H1 : Heap} (h : va_P D cl ws H1) {k : Nat} {q : Nat × va_E} (hk : ws[k]? = some q) : q.1 < H1.size := (h k q hk).lt
end VXS
/-! ===== END ===== -/
/-! ===== BEGIN methods with a table of their own: called by a name, returning or throwing ===== -/
section VXH
/-! vx_backW, vx_callVX, vx_callSX, vx_callVW, vx_runVW, vx_runVX, vx_runSX, vx_ofWH follow the same proofs as their sisters above (Free/Laws.lean, Shelf42/LK1.lean); vx_outP calls Shelf42/NT130.lean (outThrough). -/
section
variable {l : Launch} {R : Room} {p : Program} {e : Env} {below : List Frame} {s : State} {sargs : Array Value} {y : MethodName} {len W9 : Nat}
theorem vx_backW {ws : List Cond} {rm : Room} {Pc : Array Value → State → Prop} {Qc : Array Value → State → Outcome → State → Prop} {XC : String → State → State → Prop} {mc ms : Nat} {free : Addr → Prop} {bytes : ByteArray} {maxL : Nat} {ret : Option FieldType} {hh : List (Nat × Nat × Nat × Nat)}
    (hM : vx_Met l y ws rm Pc Qc XC mc ms free) (hblind : FrameBlind Pc) (hrc : rm.cells = mc) (hrs : rm.slots = ms)
    (hframes : rm.frames + 1 ≤ R.frames) (hlocals : W9 + (maxL + 11) + rm.locals ≤ R.locals)
    (hws : ∀ w ∈ ws, ∀ a' U, s.WarmedH U.vm → w.before a' U = true) (hcode : Cond.codeWith y bytes maxL ret hh ∈ ws) (hinit : ∀ a' U, s.WarmedH U.vm → (Cond.initialized y.cls).before a' U = true) :
    vx_Back l R p e below s sargs y len W9 (PreOf R mc ms Pc) (PostOf Qc mc ms free) (vx_Post XC mc ms free) := by
  intro m meth c A g ig mk a X hg hsize hdg hW hn hp
  have h1 : (headSpec ws rm).pre.before a A.U = true := atoms_intro fun w hw => hws w hw _ _ X.warmed
  have h2 : (Cond.codeWith y bytes maxL ret hh).before a A.U = true := hws _ hcode _ _ X.warmed
  have h3 : (Cond.initialized y.cls).before a A.U = true := hinit _ _ X.warmed
  have h4 : A.cells + (headSpec ws rm).room.cells ≤ R.cells := by rw [show (headSpec ws rm).room.cells = mc from hrc]; exact hp.1
  have h5 : A.slots + (headSpec ws rm).room.slots ≤ R.slots := by rw [show (headSpec ws rm).room.slots = ms from hrs]; exact hp.2.1
  have hPc : Pc a (A.U.calling g mk a) := hblind _ _ _ _ hp.2.2
  obtain ⟨U, Ls, c0, s0⟩ := A
  dsimp only [Pt.U, Pt.locs, Pt.cells, Pt.slots] at h1 h2 h3 h4 h5 X hn hPc ⊢
  obtain ⟨m9, methY, cY, hn9, hmY, hcY, -, hlY, -⟩ := Cond.codeWith_spec h2
  cases Option.some.inj (hn9.symm.trans hn)
  obtain ⟨kY, hkY, -⟩ := className_of_methodNamed hn
  have hinitY : kY.init = .initialized := Cond.initialized_spec (findClass_of_methodNamed hn) hkY h3
  have h : At U g.method c below := by rw [hg]; exact X.here
  have hlocals9 : W9 + (maxL + 11) + (headSpec ws rm).room.locals ≤ R.locals := hlocals
  have happ : (headSpec ws rm).appliesLoose y e.platform (U.calling g mk a) = true :=
    Spec.appliesLoose_calling (g := g) h hdg hn hkY hinitY
      (X.room_calling (g := g) (R' := (headSpec ws rm).room) hsize hmY hcY hframes (by rw [hlY]; omega) h4 h5) h1
  obtain ⟨mid, hmid⟩ := h.above
  have hfr : (U.setTop g).frames = (.java g :: mid) ++ below := by rw [State.frames_setTop' g h.top, hmid]; rfl
  obtain ⟨o, s₂, hsteps, -, hend, hq⟩ := Steps.callFree hM p X.admits X.cas X.clock (acts := []) hfr happ hPc trivial
  have hq' : vx_Q Qc XC mc ms free a (U.calling g mk a) o s₂ := hq
  rw [State.frames_setTop' g h.top] at hend
  obtain ⟨g₀, hg0⟩ := Option.isSome_iff_exists.mp h.top
  obtain ⟨r, hr⟩ := State.topJava?_eq_some.mp hg0
  have hr' : (({ U with heap := s₂.heap, slotsUsed := s₂.slotsUsed } : State).setVm s₂.vm).frames = .java g₀ :: r := hr
  rcases hq' with ⟨hqc, L, hfe, hL⟩ | ⟨q, rfl, E, ce, L, hx, hce, hcv, hcl, hW₂, hsm, hL⟩
  · obtain ⟨⟨v, rfl⟩, hW₂, e2, q2, q3, q4, q5, q6⟩ := id hfe
    have e3 : s₂ = ({ (U.calling g mk a).setFrames s₂.frames with heap := s₂.heap, slotsUsed := s₂.slotsUsed } : State).setVm s₂.vm := by
      have : s₂ = ({ s₂ with vm := (U.calling g mk a).vm } : State).setVm s₂.vm := rfl
      rw [e2] at this
      exact this
    obtain ⟨c₂, i₂, len₂, hc₂, hd₂, hf₂⟩ := hend
    have hW' : U.WarmedH s₂.vm := hW₂
    have hcc : c₂ = c := by
      have h1 : s₂.code? g.method = U.code? g.method := by
        rw [State.code?_eq, State.code?_eq, hW'.alike.method?]
      exact Option.some.inj (hc₂.symm.trans (h1.trans h.code))
    subst hcc
    have hlen : len₂ = len := by rw [hdg] at hd₂; cases hd₂; rfl
    subst hlen
    have hs₂ : s₂ = (({ U with heap := s₂.heap, slotsUsed := s₂.slotsUsed } : State).setVm s₂.vm).setTop { g with pc := g.pc + len₂, stack := v.toList ++ g.stack } := by
      refine e3.trans ?_
      rw [hf₂, State.calling_eq h.top, State.setFrames_setFrames, State.setTop_of_frames _ hr', hr]
      rfl
    have hsame : U.sameButNew ({ U with heap := s₂.heap, slotsUsed := s₂.slotsUsed } : State) L mc ms := by
      refine ⟨?_, q2, q3, q4, q5, q6⟩
      obtain ⟨t, ht, -⟩ := State.frames_cons hr
      show ({ U with heap := s₂.heap, slotsUsed := s₂.slotsUsed } : State) = { U.setFrames U.frames with heap := s₂.heap, slotsUsed := s₂.slotsUsed }
      rw [State.setFrames_self ht]
    subst hg
    refine Or.inl ⟨v, ⟨(({ U with heap := s₂.heap, slotsUsed := s₂.slotsUsed } : State).setVm s₂.vm), Ls ++ L, c0 + mc, s0 + ms⟩,
      ⟨X.admits, X.cas, X.clock, X.frames, X.room, X.hears, X.method, X.code, (X.here.setHeapUsed s₂.heap s₂.slotsUsed).setVm hW'.alike, X.tail, State.WarmedH.trans X.warmed hW', X.limits, X.bytes, X.same.trans (hsame.setVm s.vm)⟩,
      ⟨g, mk, s₂, L, rfl, rfl, hqc, rfl, hL, rfl, rfl⟩, ?_⟩
    show Steps p.tables e below _ ((({ U with heap := s₂.heap, slotsUsed := s₂.slotsUsed } : State).setVm s₂.vm).setTop { g with pc := g.pc + len₂, stack := v.toList ++ g.stack })
    rw [← hs₂]
    exact hsteps
  · obtain ⟨e2, q2, q3, q4, q5, q6⟩ := id hsm
    have e3 : s₂ = ({ (U.calling g mk a).setFrames s₂.frames with heap := s₂.heap, slotsUsed := s₂.slotsUsed } : State).setVm s₂.vm := by
      have : s₂ = ({ s₂ with vm := (U.calling g mk a).vm } : State).setVm s₂.vm := rfl
      rw [e2] at this
      exact this
    have hf₂ : s₂.frames = .throwing q :: .java g :: U.frames.tail := hend
    have hW' : U.WarmedH s₂.vm := hW₂
    have hs₂ : s₂ = ((({ U with heap := s₂.heap, slotsUsed := s₂.slotsUsed } : State).setVm s₂.vm).setTop g).pushFrame (.throwing q) := by
      refine e3.trans ?_
      rw [hf₂, State.calling_eq h.top, State.setFrames_setFrames, State.pushFrame, State.frames_setTop _ hr', State.setTop_of_frames _ hr', State.setFrames_setFrames, hr]
      rfl
    have hsame : U.sameButNew ({ U with heap := s₂.heap, slotsUsed := s₂.slotsUsed } : State) L mc ms := by
      refine ⟨?_, q2, q3, q4, q5, q6⟩
      obtain ⟨t, ht, -⟩ := State.frames_cons hr
      show ({ U with heap := s₂.heap, slotsUsed := s₂.slotsUsed } : State) = { U.setFrames U.frames with heap := s₂.heap, slotsUsed := s₂.slotsUsed }
      rw [State.setFrames_self ht]
    subst hg
    refine Or.inr ⟨q, ⟨(({ U with heap := s₂.heap, slotsUsed := s₂.slotsUsed } : State).setVm s₂.vm), Ls ++ L, c0 + mc, s0 + ms⟩,
      ⟨X.admits, X.cas, X.clock, X.frames, X.room, X.hears, X.method, X.code, (X.here.setHeapUsed s₂.heap s₂.slotsUsed).setVm hW'.alike, X.tail, State.WarmedH.trans X.warmed hW', X.limits, X.bytes, X.same.trans (hsame.setVm s.vm)⟩,
      ⟨g, mk, s₂, L, E, ce, rfl, rfl, hx, hce, hcv, hcl, rfl, hL, rfl, rfl⟩, ?_⟩
    show Steps p.tables e below _ (((({ U with heap := s₂.heap, slotsUsed := s₂.slotsUsed } : State).setVm s₂.vm).setTop g).pushFrame (.throwing q))
    rw [← hs₂]
    exact hsteps
end
variable {p : Program} {l : Launch} {e : Env} {R : Room} {s : State} {m : MethodId} {args : Array Value} {below : List Frame} {meth : Method} {c : Code} {T : State} {H : Heap} {locs : List Loc} {cells slots : Nat}
theorem vx_callVX (X : Stand p l e R s m args below meth c T locs cells slots) (hexec : p.tables.exec = Jvm.exec) {own C : String} {index : Nat} {y : MethodName} {bytes : ByteArray} {maxL : Nat} {ret : Option FieldType} {hh : List (Nat × Nat × Nat × Nat)}
    (hown : s.vm.findClass own = some m.cls) (hlink : (Cond.methodLink own index y).before args s = true) (hinst : (Cond.instanceMethod y).before args s = true) (hsel : (Cond.selects C y y).before args s = true)
    (hcode : (Cond.codeWith y bytes maxL ret hh).before args s = true) (hy : y.cls ≠ "java/lang/invoke/MethodHandle" ∧ y.cls ≠ "java/lang/invoke/VarHandle")
    {W9 : Nat} {Pre : Pt → Array Value → Prop} {Post : Pt → Array Value → Option Value → Pt → Prop} {PostX : Pt → Array Value → Addr → Pt → Prop} (hK : vx_Back l R p e below s args y 3 W9 Pre Post PostX)
    {b : Addr} {cellB : Cell} (hcell : T.heap[b]? = some cellB) (hobj : cellB.vm.isStatics = false) (hcls : s.vm.findClass C = some cellB.cls)
    {g : JFrame} (hg : g.method = m) (hsize : g.locals.size = c.maxLocals) {argsL rest : List Value} (hlen : ∀ sig, parseMethodDescriptor y.desc = some sig → argsL.length = sig.parameters.length)
    (hstack : g.stack = argsL.reverse ++ .ref b :: rest) (hW : 2 * g.monitorRoom + (rest.map fun v => v.category).sum ≤ W9) (hdg : decode c.code g.pc = .ok (.invokevirtual index, 3))
    (hpre : ∀ vm₁, s.WarmedH vm₁ → Pre ⟨T.setVm vm₁, locs, cells, slots⟩ (Value.ref b :: argsL).toArray) :
    (∃ (v : Option Value) (vm₁ : Vm) (B : Pt), s.WarmedH vm₁ ∧ Stand p l e R s m args below meth c B.U B.locs B.cells B.slots ∧ Post ⟨T.setVm vm₁, locs, cells, slots⟩ (Value.ref b :: argsL).toArray v B ∧
      ∀ target, Steps p.tables e below (B.U.setTop { g with pc := g.pc + 3, stack := v.toList ++ rest }) target → Steps p.tables e below (T.setTop g) target) ∨
    (∃ (q : Addr) (vm₁ : Vm) (B : Pt), s.WarmedH vm₁ ∧ Stand p l e R s m args below meth c B.U B.locs B.cells B.slots ∧ PostX ⟨T.setVm vm₁, locs, cells, slots⟩ (Value.ref b :: argsL).toArray q B ∧
      Steps p.tables e below (T.setTop g) ((B.U.setTop { g with stack := rest }).pushFrame (.throwing q))) := by
  obtain ⟨mk, methM, hnamed, hmethM, hstM, habM⟩ := Cond.instanceMethod_spec hinst
  obtain ⟨m8, methM', cM, hn8, hmethM', -, -, -, -, -, -, hsigM⟩ := Cond.codeWith_spec hcode
  cases Option.some.inj (hn8.symm.trans hnamed)
  cases hmethM.symm.trans hmethM'
  obtain ⟨c2, r2, m2, q1, q2, q3, q4, kP, hkP, hkPi⟩ := Cond.selects_spec hsel
  cases hcls.symm.trans q1
  cases (State.methodFound?_of_named hnamed hy).symm.trans q2
  cases hnamed.symm.trans q3
  have hselP : selectMethod e.platform s.vm cellB.cls mk = .method mk := by rw [Launch.admits_selectMethod X.admits]; exact q4
  obtain ⟨vm₁, X₁, hstep₁⟩ := X.invokevirtual hexec hown hlink hnamed hmethM hstM hkP hkPi hy (a := b) (cell := cellB) hcell
    (fun z h => by rw [h] at hobj; cases hobj) hselP hmethM habM hkP hkPi (g := g) hg (argsL := argsL) (rest := rest) (hlen _ hsigM) hstack hdg
  rcases hK m meth c ⟨T.setVm vm₁, locs, cells, slots⟩ { g with stack := rest } (.invokevirtual index) mk (Value.ref b :: argsL).toArray X₁ hg hsize hdg hW (X₁.named hnamed) (hpre vm₁ X₁.warmed) with ⟨v, B, X', hpost, hsteps⟩ | ⟨q, B, X', hpost, hsteps⟩
  · exact Or.inl ⟨v, vm₁, B, X₁.warmed, X', hpost, fun target h => hstep₁ _ fun acts => by rw [doInvoke_state]; exact hsteps.trans h⟩
  · exact Or.inr ⟨q, vm₁, B, X₁.warmed, X', hpost, hstep₁ _ fun acts => by rw [doInvoke_state]; exact hsteps⟩
theorem vx_callSX (X : Stand p l e R s m args below meth c T locs cells slots) (hexec : p.tables.exec = Jvm.exec) {own : String} {index : Nat} {y : MethodName} {bytes : ByteArray} {maxL : Nat} {ret : Option FieldType} {hh : List (Nat × Nat × Nat × Nat)}
    (hown : s.vm.findClass own = some m.cls) (hlink : (Cond.methodLink own index y).before args s = true) (hstat : (Cond.static y).before args s = true) (hinit : (Cond.initialized y.cls).before args s = true)
    (hcode : (Cond.codeWith y bytes maxL ret hh).before args s = true) (hy : y.cls ≠ "java/lang/invoke/MethodHandle" ∧ y.cls ≠ "java/lang/invoke/VarHandle")
    {W9 : Nat} {Pre : Pt → Array Value → Prop} {Post : Pt → Array Value → Option Value → Pt → Prop} {PostX : Pt → Array Value → Addr → Pt → Prop} (hK : vx_Back l R p e below s args y 3 W9 Pre Post PostX)
    {g : JFrame} (hg : g.method = m) (hsize : g.locals.size = c.maxLocals) {argsL rest : List Value} (hlen : ∀ sig, parseMethodDescriptor y.desc = some sig → argsL.length = sig.parameters.length)
    (hstack : g.stack = argsL.reverse ++ rest) (hW : 2 * g.monitorRoom + (rest.map fun v => v.category).sum ≤ W9) (hdg : decode c.code g.pc = .ok (.invokestatic index, 3))
    (hpre : ∀ vm₁, s.WarmedH vm₁ → Pre ⟨T.setVm vm₁, locs, cells, slots⟩ argsL.toArray) :
    (∃ (v : Option Value) (vm₁ : Vm) (B : Pt), s.WarmedH vm₁ ∧ Stand p l e R s m args below meth c B.U B.locs B.cells B.slots ∧ Post ⟨T.setVm vm₁, locs, cells, slots⟩ argsL.toArray v B ∧
      ∀ target, Steps p.tables e below (B.U.setTop { g with pc := g.pc + 3, stack := v.toList ++ rest }) target → Steps p.tables e below (T.setTop g) target) ∨
    (∃ (q : Addr) (vm₁ : Vm) (B : Pt), s.WarmedH vm₁ ∧ Stand p l e R s m args below meth c B.U B.locs B.cells B.slots ∧ PostX ⟨T.setVm vm₁, locs, cells, slots⟩ argsL.toArray q B ∧
      Steps p.tables e below (T.setTop g) ((B.U.setTop { g with stack := rest }).pushFrame (.throwing q))) := by
  obtain ⟨mk, methM, cM, hnamed, hmethM, -, -, -, -, -, -, hsigM⟩ := Cond.codeWith_spec hcode
  have hstatic : methM.isStatic = true := Cond.static_spec hnamed hmethM hstat
  obtain ⟨kP, hkP, -⟩ := className_of_methodNamed hnamed
  have hinitP : kP.init = .initialized := Cond.initialized_spec (findClass_of_methodNamed hnamed) hkP hinit
  obtain ⟨vm₁, X₁, hstep₁⟩ := X.invokestatic hexec hown hlink hnamed hmethM hstatic hkP hinitP hy (g := g) hg (argsL := argsL) (rest := rest) (hlen _ hsigM) hstack hdg
  rcases hK m meth c ⟨T.setVm vm₁, locs, cells, slots⟩ { g with stack := rest } (.invokestatic index) mk argsL.toArray X₁ hg hsize hdg hW (X₁.named hnamed) (hpre vm₁ X₁.warmed) with ⟨v, B, X', hpost, hsteps⟩ | ⟨q, B, X', hpost, hsteps⟩
  · exact Or.inl ⟨v, vm₁, B, X₁.warmed, X', hpost, fun target h => hstep₁ _ fun acts => by rw [doInvoke_state]; exact hsteps.trans h⟩
  · exact Or.inr ⟨q, vm₁, B, X₁.warmed, X', hpost, hstep₁ _ fun acts => by rw [doInvoke_state]; exact hsteps⟩
theorem vx_callVW (X : Stand p l e R s m args below meth c T locs cells slots) (hexec : p.tables.exec = Jvm.exec) {own C : String} {index : Nat} {y : MethodName} {bytes : ByteArray} {maxL : Nat} {ret : Option FieldType} {hh : List (Nat × Nat × Nat × Nat)}
    (hown : s.vm.findClass own = some m.cls) (hlink : (Cond.methodLink own index y).before args s = true) (hinst : (Cond.instanceMethod y).before args s = true) (hsel : (Cond.selects C y y).before args s = true)
    (hcode : (Cond.codeWith y bytes maxL ret hh).before args s = true) (hy : y.cls ≠ "java/lang/invoke/MethodHandle" ∧ y.cls ≠ "java/lang/invoke/VarHandle")
    {W9 : Nat} {Pre : Pt → Array Value → Prop} {Post : Pt → Array Value → Option Value → Pt → Prop} (hK : Back l R p e below s args y 3 W9 Pre Post)
    {b : Addr} {cellB : Cell} (hcell : T.heap[b]? = some cellB) (hobj : cellB.vm.isStatics = false) (hcls : s.vm.findClass C = some cellB.cls)
    {g : JFrame} (hg : g.method = m) (hsize : g.locals.size = c.maxLocals) {argsL rest : List Value} (hlen : ∀ sig, parseMethodDescriptor y.desc = some sig → argsL.length = sig.parameters.length)
    (hstack : g.stack = argsL.reverse ++ .ref b :: rest) (hW : 2 * g.monitorRoom + (rest.map fun v => v.category).sum ≤ W9) (hdg : decode c.code g.pc = .ok (.invokevirtual index, 3))
    (hpre : ∀ vm₁, s.WarmedH vm₁ → Pre ⟨T.setVm vm₁, locs, cells, slots⟩ (Value.ref b :: argsL).toArray) :
    ∃ (v : Option Value) (vm₁ : Vm) (B : Pt), s.WarmedH vm₁ ∧ Stand p l e R s m args below meth c B.U B.locs B.cells B.slots ∧ Post ⟨T.setVm vm₁, locs, cells, slots⟩ (Value.ref b :: argsL).toArray v B ∧
      ∀ target, Steps p.tables e below (B.U.setTop { g with pc := g.pc + 3, stack := v.toList ++ rest }) target → Steps p.tables e below (T.setTop g) target := by
  obtain ⟨mk, methM, hnamed, hmethM, hstM, habM⟩ := Cond.instanceMethod_spec hinst
  obtain ⟨m8, methM', cM, hn8, hmethM', -, -, -, -, -, -, hsigM⟩ := Cond.codeWith_spec hcode
  cases Option.some.inj (hn8.symm.trans hnamed)
  cases hmethM.symm.trans hmethM'
  obtain ⟨c2, r2, m2, q1, q2, q3, q4, kP, hkP, hkPi⟩ := Cond.selects_spec hsel
  cases hcls.symm.trans q1
  cases (State.methodFound?_of_named hnamed hy).symm.trans q2
  cases hnamed.symm.trans q3
  have hselP : selectMethod e.platform s.vm cellB.cls mk = .method mk := by rw [Launch.admits_selectMethod X.admits]; exact q4
  obtain ⟨vm₁, X₁, hstep₁⟩ := X.invokevirtual hexec hown hlink hnamed hmethM hstM hkP hkPi hy (a := b) (cell := cellB) hcell
    (fun z h => by rw [h] at hobj; cases hobj) hselP hmethM habM hkP hkPi (g := g) hg (argsL := argsL) (rest := rest) (hlen _ hsigM) hstack hdg
  obtain ⟨v, B, X', hpost, hsteps⟩ := hK m meth c ⟨T.setVm vm₁, locs, cells, slots⟩ { g with stack := rest } (.invokevirtual index) mk (Value.ref b :: argsL).toArray X₁ hg hsize hdg hW (X₁.named hnamed) (hpre vm₁ X₁.warmed)
  exact ⟨v, vm₁, B, X₁.warmed, X', hpost, fun target h => hstep₁ _ fun acts => by rw [doInvoke_state]; exact hsteps.trans h⟩
abbrev vx_CVW (R : Room) (s : State) (args : Array Value) (own C : String) (index : Nat) (y : MethodName) (bytes : ByteArray) (maxL : Nat) (ret : Option FieldType) (hh : List (Nat × Nat × Nat × Nat)) (ws : List Cond) (rm : Room) (mc ms n : Nat) : Prop :=
  (rm.cells = mc ∧ rm.slots = ms ∧ rm.frames + 1 ≤ R.frames ∧ 8 + (maxL + 11) + rm.locals ≤ R.locals ∧ (∀ w ∈ ws, ∀ (a' : Array Value) (U : State), s.WarmedH U.vm → w.before a' U = true) ∧ Cond.codeWith y bytes maxL ret hh ∈ ws) ∧
  (Cond.codeWith y bytes maxL ret hh).before args s = true ∧ (Cond.initialized y.cls).before args s = true ∧ (y.cls ≠ "java/lang/invoke/MethodHandle" ∧ y.cls ≠ "java/lang/invoke/VarHandle") ∧
  (∀ sig, parseMethodDescriptor y.desc = some sig → n = sig.parameters.length) ∧ (Cond.methodLink own index y).before args s = true ∧ (Cond.instanceMethod y).before args s = true ∧ (Cond.selects C y y).before args s = true
theorem vx_cwVW {own C : String} {index maxL mc ms : Nat} {y : MethodName} {bytes : ByteArray} {ret : Option FieldType} {hh : List (Nat × Nat × Nat × Nat)} {Ts ws ws' : List Cond} {rm : Room} (n : Nat) (ht : ∀ w ∈ Ts, w.before args s = true) (hT : GoodIn Ts (wsV own index C y ws)) (hw : ws = Cond.codeWith y bytes maxL ret hh :: ws') (hrc : rm.cells = mc) (hrs : rm.slots = ms)
    (hd : y.cls = C ∧ y.cls ≠ "java/lang/invoke/MethodHandle" ∧ y.cls ≠ "java/lang/invoke/VarHandle" ∧ (parseMethodDescriptor y.desc).map (fun d => d.parameters.length) = some n) (hR : rm.frames + 1 ≤ R.frames ∧ 8 + (maxL + 11) + rm.locals ≤ R.locals) :
    vx_CVW R s args own C index y bytes maxL ret hh ws rm mc ms n := by
  obtain ⟨hC, hd⟩ := hd
  subst hC
  have ok : ∀ w ∈ wsV own index y.cls y ws, w.before args s = true := fun w h => ht w (hT w h).1
  have hG : GoodIn Ts ws := fun w h => hT w (by unfold wsV; exact List.mem_append_right _ h)
  have hc : Cond.codeWith y bytes maxL ret hh ∈ ws := by rw [hw]; exact List.mem_cons_self
  refine ⟨⟨hrc, hrs, hR.1, hR.2, pay_in ht hG, hc⟩, ht _ (hG _ hc).1, ok _ (by simp [wsV]), ⟨hd.1, hd.2.1⟩, fun sig h => ?_, ok _ (by simp [wsV]), ok _ (by simp [wsV]), ok _ (by simp [wsV])⟩
  have h2 := hd.2.2
  rw [h] at h2
  exact (Option.some.inj h2).symm
theorem vx_runVW {y : MethodName} {bytes cc : ByteArray} {maxL nL mc ms n index : Nat} {ret : Option FieldType} {hh : List (Nat × Nat × Nat × Nat)} {ws : List Cond} {rm : Room} {Pc : Array Value → State → Prop} {Qc : Array Value → State → Outcome → State → Prop} {free : Addr → Prop} {Ts : List Cond} {own C : String} {b : Addr} {As rest : List Value} {g : JFrame}
    (S : CallFix p m c cc nL s args Ts own) (hM : Met l y ws rm Pc Qc mc ms free) (cw : vx_CVW R s args own C index y bytes maxL ret hh ws rm mc ms n) (hp : PreV s H C b Pc As)
    (hg : g.method = m) (hn : As.length = n) (hsize : g.locals.size = nL) (hstack : g.stack = As.reverse ++ .ref b :: rest) (hW : 2 * g.monitorRoom + (rest.map fun v => v.category).sum ≤ 8) (hdg : decode cc g.pc = .ok (.invokevirtual index, 3)) (hf : cells + mc ≤ R.cells ∧ slots + ms ≤ R.slots) :
    va_Run p l e R s m args below meth c H locs cells slots mc ms g rest (Qc (Value.ref b :: As).toArray) free := by
  obtain ⟨⟨hrc, hrs, hfr, hlo, hws, hcw⟩, hcode, hini, hy, hlen, hl, hin, hse⟩ := cw
  have hK : Back l R p e below s args y 3 8 (PreOf R mc ms Pc) (PostOf Qc mc ms free) := va_backW (hh := hh) (bytes := bytes) (maxL := maxL) (ret := ret) hM hp.1 hrc hrs hfr hlo hws hcw (fun a' U hW => word_at hW (Or.inl (by first | rfl | simp [Cond.onTables, Cond.keeps, Cond.steady])) hini)
  obtain ⟨hx, hb, hml, ho, -⟩ := S
  obtain ⟨-, ⟨cellB, hcB, hoB, hclB⟩, hPc⟩ := hp
  intro T hT X
  obtain ⟨v, vm₁, ⟨U', l2, c2, s2⟩, hW₁, X', ⟨g', mk, t, L, e1, e2, hq, h1, hL, h2, h3⟩, st⟩ := vx_callVW X hx (C := C) (hh := hh) (bytes := bytes) (maxL := maxL) (ret := ret) ho hl hin hse hcode hy hK (by rw [hT]; exact hcB) hoB hclB hg (hsize.trans hml.symm) (argsL := As) (rest := rest) (fun sig h => hn.trans (hlen sig h)) hstack hW (by rw [hb]; exact hdg)
    (fun vm₁ hW₁ => ⟨hf.1, hf.2, hPc (T.setVm vm₁) hT hW₁⟩)
  dsimp only [Pt.U, Pt.locs, Pt.cells, Pt.slots] at X' e1 e2 h1 h2 h3 st
  subst h1; subst h2; subst h3
  exact ⟨v, (T.setVm vm₁).calling g' mk (Value.ref b :: As).toArray, t, U', L, hT, X', hL, e1, e2, hq, st⟩
section
variable {y : MethodName} {bytes cc : ByteArray} {maxL nL mc ms n index : Nat} {ret : Option FieldType} {ws : List Cond} {rm : Room} {Pc : Array Value → State → Prop} {Qc : Array Value → State → Outcome → State → Prop} {XC : String → State → State → Prop} {free : Addr → Prop} {Ts : List Cond} {own C : String} {b : Addr} {As rest : List Value} {g : JFrame}
theorem vx_runVX {hh : List (Nat × Nat × Nat × Nat)} (S : CallFix p m c cc nL s args Ts own) (hM : vx_Met l y ws rm Pc Qc XC mc ms free) (cw : vx_CVW R s args own C index y bytes maxL ret hh ws rm mc ms n) (hp : PreV s H C b Pc As)
    (hg : g.method = m) (hn : As.length = n) (hsize : g.locals.size = nL) (hstack : g.stack = As.reverse ++ .ref b :: rest) (hW : 2 * g.monitorRoom + (rest.map fun v => v.category).sum ≤ 8) (hdg : decode cc g.pc = .ok (.invokevirtual index, 3)) (hf : cells + mc ≤ R.cells ∧ slots + ms ≤ R.slots) :
    vx_Run p l e R s m args below meth c H locs cells slots mc ms g rest (Qc (Value.ref b :: As).toArray) XC free := by
  obtain ⟨⟨hrc, hrs, hfr, hlo, hws, hcw⟩, hcode, hini, hy, hlen, hl, hin, hse⟩ := cw
  have hK : vx_Back l R p e below s args y 3 8 (PreOf R mc ms Pc) (PostOf Qc mc ms free) (vx_Post XC mc ms free) := vx_backW (hh := hh) (bytes := bytes) (maxL := maxL) (ret := ret) hM hp.1 hrc hrs hfr hlo hws hcw (fun a' U hW => word_at hW (Or.inl (by first | rfl | simp [Cond.onTables, Cond.keeps, Cond.steady])) hini)
  obtain ⟨hx, hb, hml, ho, -⟩ := S
  obtain ⟨-, ⟨cellB, hcB, hoB, hclB⟩, hPc⟩ := hp
  intro T hT X
  rcases vx_callVX X hx (C := C) (hh := hh) (bytes := bytes) (maxL := maxL) (ret := ret) ho hl hin hse hcode hy hK (by rw [hT]; exact hcB) hoB hclB hg (hsize.trans hml.symm) (argsL := As) (rest := rest) (fun sig h => hn.trans (hlen sig h)) hstack hW (by rw [hb]; exact hdg)
    (fun vm₁ hW₁ => ⟨hf.1, hf.2, hPc (T.setVm vm₁) hT hW₁⟩) with ⟨v, vm₁, ⟨U', l2, c2, s2⟩, hW₁, X', ⟨g', mk, t, L, e1, e2, hq, h1, hL, h2, h3⟩, st⟩ | ⟨q, vm₁, ⟨U', l2, c2, s2⟩, hW₁, X', ⟨g', mk, t, L, E, ce, e1, e2, hq, hce, hcv, hcl, h1, hL, h2, h3⟩, st⟩
  · dsimp only [Pt.U, Pt.locs, Pt.cells, Pt.slots] at X' e1 e2 h1 h2 h3 st
    subst h1; subst h2; subst h3
    exact Or.inl ⟨v, (T.setVm vm₁).calling g' mk (Value.ref b :: As).toArray, t, U', L, hT, X', hL, e1, e2, hq, st⟩
  · dsimp only [Pt.U, Pt.locs, Pt.cells, Pt.slots] at X' e1 e2 h1 h2 h3 st hcl
    subst h1; subst h2; subst h3
    exact Or.inr ⟨q, (T.setVm vm₁).calling g' mk (Value.ref b :: As).toArray, t, U', L, E, ce, hT, X', hL, e1, e2, hq, hce, hcv, vx_cls hW₁ hcl, st⟩
theorem vx_runSX {hh : List (Nat × Nat × Nat × Nat)} (S : CallFix p m c cc nL s args Ts own) (hM : vx_Met l y ws rm Pc Qc XC mc ms free) (cw : vx_CSW R s args own index y bytes maxL ret hh ws rm mc ms n) (hp : PreS s H Pc As)
    (hg : g.method = m) (hn : As.length = n) (hsize : g.locals.size = nL) (hstack : g.stack = As.reverse ++ rest) (hW : 2 * g.monitorRoom + (rest.map fun v => v.category).sum ≤ 8) (hdg : decode cc g.pc = .ok (.invokestatic index, 3)) (hf : cells + mc ≤ R.cells ∧ slots + ms ≤ R.slots) :
    vx_Run p l e R s m args below meth c H locs cells slots mc ms g rest (Qc As.toArray) XC free := by
  obtain ⟨⟨hrc, hrs, hfr, hlo, hws, hcw⟩, hcode, hini, hy, hlen, hl, hstt⟩ := cw
  have hK : vx_Back l R p e below s args y 3 8 (PreOf R mc ms Pc) (PostOf Qc mc ms free) (vx_Post XC mc ms free) := vx_backW (hh := hh) (bytes := bytes) (maxL := maxL) (ret := ret) hM hp.1 hrc hrs hfr hlo hws hcw (fun a' U hW => word_at hW (Or.inl (by first | rfl | simp [Cond.onTables, Cond.keeps, Cond.steady])) hini)
  obtain ⟨hx, hb, hml, ho, -⟩ := S
  intro T hT X
  rcases vx_callSX X hx (hh := hh) (bytes := bytes) (maxL := maxL) (ret := ret) ho hl hstt hini hcode hy hK hg (hsize.trans hml.symm) (argsL := As) (rest := rest) (fun sig h => hn.trans (hlen sig h)) hstack hW (by rw [hb]; exact hdg)
    (fun vm₁ hW₁ => ⟨hf.1, hf.2, hp.2 (T.setVm vm₁) hT hW₁⟩) with ⟨v, vm₁, ⟨U', l2, c2, s2⟩, hW₁, X', ⟨g', mk, t, L, e1, e2, hq, h1, hL, h2, h3⟩, st⟩ | ⟨q, vm₁, ⟨U', l2, c2, s2⟩, hW₁, X', ⟨g', mk, t, L, E, ce, e1, e2, hq, hce, hcv, hcl, h1, hL, h2, h3⟩, st⟩
  · dsimp only [Pt.U, Pt.locs, Pt.cells, Pt.slots] at X' e1 e2 h1 h2 h3 st
    subst h1; subst h2; subst h3
    exact Or.inl ⟨v, (T.setVm vm₁).calling g' mk As.toArray, t, U', L, hT, X', hL, e1, e2, hq, st⟩
  · dsimp only [Pt.U, Pt.locs, Pt.cells, Pt.slots] at X' e1 e2 h1 h2 h3 st hcl
    subst h1; subst h2; subst h3
    exact Or.inr ⟨q, (T.setVm vm₁).calling g' mk As.toArray, t, U', L, E, ce, hT, X', hL, e1, e2, hq, hce, hcv, vx_cls hW₁ hcl, st⟩
end
end VXH
theorem vx_ofWH {l : Launch} {y : MethodName} {ws ws' : List Cond} {rm : Room} {Pc : Array Value → State → Prop} {Qc : Array Value → State → Outcome → State → Prop} {XC : String → State → State → Prop} {mc ms : Nat} {free : Addr → Prop} {cc : ByteArray} {maxL : Nat} {ret : Option FieldType} {hh : List (Nat × Nat × Nat × Nat)}
    (hy : plainName y.cls = true) (hw : ws = Cond.codeWith y cc maxL ret hh :: ws')
    (body : ∀ p e s m args below meth c s₁, BodyLoose p l y (headSpec ws rm) cc maxL ret e s m args below meth c s₁ → c.maxLocals = maxL → Pc args s →
      W p l e (headSpec ws rm).room s m args below meth c s.heap [] 0 0 (vx_MQ below Qc XC args s mc ms free) (entryFrame m args maxL)) : vx_Met l y ws rm Pc Qc XC mc ms free := by
  refine MetFree.of_bodyS (code := cc) (maxLocals := maxL) (ret := ret) hy ?_ ?_
  · intro args s m h hn
    obtain ⟨m9, meth, c, hn9, h1, h2, h3, h4, -, h5, h6, -⟩ := Cond.codeWith_spec (atoms_spec (ws := ws) h _ (by rw [hw]; exact List.mem_cons_self))
    cases hn.symm.trans hn9
    exact ⟨meth, c, h1, h2, h3, h4, h5, h6⟩
  · intro p e s m args below meth c s₁ B hml hP _
    have hh0 : s₁.heap = s.heap := by rw [B.state]; rfl
    obtain ⟨t, a1, o, b1, b2, b3⟩ := body p e s m args below meth c s₁ B hml hP s₁ hh0 (Stand.of_body B)
    exact ⟨t, o, a1, b1, b2, b3⟩
/-! ===== END ===== -/
end
section
-- ===== decode rows =====
theorem d_Mod_init_0 : decode b_Mod_init 0 = .ok (.aload_n 0, 1) := by decide +kernel
theorem d_Mod_init_1 : decode b_Mod_init 1 = .ok (.invokespecial 1, 3) := by decide +kernel
theorem d_Mod_init_4 : decode b_Mod_init 4 = .ok (.aload_n 0, 1) := by decide +kernel
theorem d_Mod_init_5 : decode b_Mod_init 5 = .ok (.iconst 2, 1) := by decide +kernel
theorem d_Mod_init_6 : decode b_Mod_init 6 = .ok (.newarray .int, 2) := by decide +kernel
theorem d_Mod_init_8 : decode b_Mod_init 8 = .ok (.putfield 7, 3) := by decide +kernel
theorem d_Mod_init_11 : decode b_Mod_init 11 = .ok (.aload_n 0, 1) := by decide +kernel
theorem d_Mod_init_12 : decode b_Mod_init 12 = .ok (.bipush 100, 2) := by decide +kernel
theorem d_Mod_init_14 : decode b_Mod_init 14 = .ok (.newarray .int, 2) := by decide +kernel
theorem d_Mod_init_16 : decode b_Mod_init 16 = .ok (.putfield 13, 3) := by decide +kernel
theorem d_Mod_init_19 : decode b_Mod_init 19 = .ok (.aload_n 0, 1) := by decide +kernel
theorem d_Mod_init_20 : decode b_Mod_init 20 = .ok (.bipush 100, 2) := by decide +kernel
theorem d_Mod_init_22 : decode b_Mod_init 22 = .ok (.newarray .int, 2) := by decide +kernel
theorem d_Mod_init_24 : decode b_Mod_init 24 = .ok (.putfield 16, 3) := by decide +kernel
theorem d_Mod_init_27 : decode b_Mod_init 27 = .ok (.aload_n 0, 1) := by decide +kernel
theorem d_Mod_init_28 : decode b_Mod_init 28 = .ok (.bipush 100, 2) := by decide +kernel
theorem d_Mod_init_30 : decode b_Mod_init 30 = .ok (.newarray .int, 2) := by decide +kernel
theorem d_Mod_init_32 : decode b_Mod_init 32 = .ok (.putfield 19, 3) := by decide +kernel
theorem d_Mod_init_35 : decode b_Mod_init 35 = .ok (.aload_n 0, 1) := by decide +kernel
theorem d_Mod_init_36 : decode b_Mod_init 36 = .ok (.bipush 100, 2) := by decide +kernel
theorem d_Mod_init_38 : decode b_Mod_init 38 = .ok (.newarray .int, 2) := by decide +kernel
theorem d_Mod_init_40 : decode b_Mod_init 40 = .ok (.putfield 22, 3) := by decide +kernel
theorem d_Mod_init_43 : decode b_Mod_init 43 = .ok (.aload_n 0, 1) := by decide +kernel
theorem d_Mod_init_44 : decode b_Mod_init 44 = .ok (.bipush 14, 2) := by decide +kernel
theorem d_Mod_init_46 : decode b_Mod_init 46 = .ok (.newarray .int, 2) := by decide +kernel
theorem d_Mod_init_48 : decode b_Mod_init 48 = .ok (.putfield 25, 3) := by decide +kernel
theorem d_Mod_init_51 : decode b_Mod_init 51 = .ok (.aload_n 0, 1) := by decide +kernel
theorem d_Mod_init_52 : decode b_Mod_init 52 = .ok (.bipush 14, 2) := by decide +kernel
theorem d_Mod_init_54 : decode b_Mod_init 54 = .ok (.newarray .int, 2) := by decide +kernel
theorem d_Mod_init_56 : decode b_Mod_init 56 = .ok (.putfield 28, 3) := by decide +kernel
theorem d_Mod_init_59 : decode b_Mod_init 59 = .ok (.aload_n 0, 1) := by decide +kernel
theorem d_Mod_init_60 : decode b_Mod_init 60 = .ok (.bipush 14, 2) := by decide +kernel
theorem d_Mod_init_62 : decode b_Mod_init 62 = .ok (.newarray .boolean, 2) := by decide +kernel
theorem d_Mod_init_64 : decode b_Mod_init 64 = .ok (.putfield 31, 3) := by decide +kernel
theorem d_Mod_init_67 : decode b_Mod_init 67 = .ok (.aload_n 0, 1) := by decide +kernel
theorem d_Mod_init_68 : decode b_Mod_init 68 = .ok (.bipush 16, 2) := by decide +kernel
theorem d_Mod_init_70 : decode b_Mod_init 70 = .ok (.newarray .int, 2) := by decide +kernel
theorem d_Mod_init_72 : decode b_Mod_init 72 = .ok (.putfield 35, 3) := by decide +kernel
theorem d_Mod_init_75 : decode b_Mod_init 75 = .ok (.aload_n 0, 1) := by decide +kernel
theorem d_Mod_init_76 : decode b_Mod_init 76 = .ok (.bipush 16, 2) := by decide +kernel
theorem d_Mod_init_78 : decode b_Mod_init 78 = .ok (.newarray .int, 2) := by decide +kernel
theorem d_Mod_init_80 : decode b_Mod_init 80 = .ok (.putfield 38, 3) := by decide +kernel
theorem d_Mod_init_83 : decode b_Mod_init 83 = .ok (.aload_n 0, 1) := by decide +kernel
theorem d_Mod_init_84 : decode b_Mod_init 84 = .ok (.bipush 100, 2) := by decide +kernel
theorem d_Mod_init_86 : decode b_Mod_init 86 = .ok (.newarray .boolean, 2) := by decide +kernel
theorem d_Mod_init_88 : decode b_Mod_init 88 = .ok (.putfield 41, 3) := by decide +kernel
theorem d_Mod_init_91 : decode b_Mod_init 91 = .ok (.aload_n 0, 1) := by decide +kernel
theorem d_Mod_init_92 : decode b_Mod_init 92 = .ok (.sipush 16384, 3) := by decide +kernel
theorem d_Mod_init_95 : decode b_Mod_init 95 = .ok (.newarray .int, 2) := by decide +kernel
theorem d_Mod_init_97 : decode b_Mod_init 97 = .ok (.putfield 44, 3) := by decide +kernel
theorem d_Mod_init_100 : decode b_Mod_init 100 = .ok (.aload_n 0, 1) := by decide +kernel
theorem d_Mod_init_101 : decode b_Mod_init 101 = .ok (.sipush 16384, 3) := by decide +kernel
theorem d_Mod_init_104 : decode b_Mod_init 104 = .ok (.newarray .int, 2) := by decide +kernel
theorem d_Mod_init_106 : decode b_Mod_init 106 = .ok (.putfield 47, 3) := by decide +kernel
theorem d_Mod_init_109 : decode b_Mod_init 109 = .ok (.aload_n 0, 1) := by decide +kernel
theorem d_Mod_init_110 : decode b_Mod_init 110 = .ok (.sipush 16384, 3) := by decide +kernel
theorem d_Mod_init_113 : decode b_Mod_init 113 = .ok (.newarray .int, 2) := by decide +kernel
theorem d_Mod_init_115 : decode b_Mod_init 115 = .ok (.putfield 50, 3) := by decide +kernel
theorem d_Mod_init_118 : decode b_Mod_init 118 = .ok (.aload_n 0, 1) := by decide +kernel
theorem d_Mod_init_119 : decode b_Mod_init 119 = .ok (.sipush 16400, 3) := by decide +kernel
theorem d_Mod_init_122 : decode b_Mod_init 122 = .ok (.newarray .int, 2) := by decide +kernel
theorem d_Mod_init_124 : decode b_Mod_init 124 = .ok (.putfield 53, 3) := by decide +kernel
theorem d_Mod_init_127 : decode b_Mod_init 127 = .ok (.aload_n 0, 1) := by decide +kernel
theorem d_Mod_init_128 : decode b_Mod_init 128 = .ok (.sipush 16384, 3) := by decide +kernel
theorem d_Mod_init_131 : decode b_Mod_init 131 = .ok (.newarray .boolean, 2) := by decide +kernel
theorem d_Mod_init_133 : decode b_Mod_init 133 = .ok (.putfield 56, 3) := by decide +kernel
theorem d_Mod_init_136 : decode b_Mod_init 136 = .ok (.aload_n 0, 1) := by decide +kernel
theorem d_Mod_init_137 : decode b_Mod_init 137 = .ok (.sipush 16400, 3) := by decide +kernel
theorem d_Mod_init_140 : decode b_Mod_init 140 = .ok (.newarray .int, 2) := by decide +kernel
theorem d_Mod_init_142 : decode b_Mod_init 142 = .ok (.putfield 59, 3) := by decide +kernel
theorem d_Mod_init_145 : decode b_Mod_init 145 = .ok (.aload_n 0, 1) := by decide +kernel
theorem d_Mod_init_146 : decode b_Mod_init 146 = .ok (.iconst (-1), 1) := by decide +kernel
theorem d_Mod_init_147 : decode b_Mod_init 147 = .ok (.putfield 62, 3) := by decide +kernel
theorem d_Mod_init_150 : decode b_Mod_init 150 = .ok (.aload_n 0, 1) := by decide +kernel
theorem d_Mod_init_151 : decode b_Mod_init 151 = .ok (.bipush 100, 2) := by decide +kernel
theorem d_Mod_init_153 : decode b_Mod_init 153 = .ok (.newarray .boolean, 2) := by decide +kernel
theorem d_Mod_init_155 : decode b_Mod_init 155 = .ok (.putfield 66, 3) := by decide +kernel
theorem d_Mod_init_158 : decode b_Mod_init 158 = .ok (.aload_n 0, 1) := by decide +kernel
theorem d_Mod_init_159 : decode b_Mod_init 159 = .ok (.iconst 1, 1) := by decide +kernel
theorem d_Mod_init_160 : decode b_Mod_init 160 = .ok (.iload_n 1, 1) := by decide +kernel
theorem d_Mod_init_161 : decode b_Mod_init 161 = .ok (.iconst 1, 1) := by decide +kernel
theorem d_Mod_init_162 : decode b_Mod_init 162 = .ok (.isub, 1) := by decide +kernel
theorem d_Mod_init_163 : decode b_Mod_init 163 = .ok (.iconst 3, 1) := by decide +kernel
theorem d_Mod_init_164 : decode b_Mod_init 164 = .ok (.iand, 1) := by decide +kernel
theorem d_Mod_init_165 : decode b_Mod_init 165 = .ok (.iadd, 1) := by decide +kernel
theorem d_Mod_init_166 : decode b_Mod_init 166 = .ok (.putfield 69, 3) := by decide +kernel
theorem d_Mod_init_169 : decode b_Mod_init 169 = .ok (.aload_n 0, 1) := by decide +kernel
theorem d_Mod_init_170 : decode b_Mod_init 170 = .ok (.aload_n 0, 1) := by decide +kernel
theorem d_Mod_init_171 : decode b_Mod_init 171 = .ok (.getfield 69, 3) := by decide +kernel
theorem d_Mod_init_174 : decode b_Mod_init 174 = .ok (.putfield 72, 3) := by decide +kernel
theorem d_Mod_init_177 : decode b_Mod_init 177 = .ok (.iconst 0, 1) := by decide +kernel
theorem d_Mod_init_178 : decode b_Mod_init 178 = .ok (.istore_n 2, 1) := by decide +kernel
theorem d_Mod_init_179 : decode b_Mod_init 179 = .ok (.iload_n 2, 1) := by decide +kernel
theorem d_Mod_init_180 : decode b_Mod_init 180 = .ok (.aload_n 0, 1) := by decide +kernel
theorem d_Mod_init_181 : decode b_Mod_init 181 = .ok (.getfield 72, 3) := by decide +kernel
theorem d_Mod_init_184 : decode b_Mod_init 184 = .ok (.if_icmp .ge 16, 3) := by decide +kernel
theorem d_Mod_init_187 : decode b_Mod_init 187 = .ok (.aload_n 0, 1) := by decide +kernel
theorem d_Mod_init_188 : decode b_Mod_init 188 = .ok (.getfield 13, 3) := by decide +kernel
theorem d_Mod_init_191 : decode b_Mod_init 191 = .ok (.iload_n 2, 1) := by decide +kernel
theorem d_Mod_init_192 : decode b_Mod_init 192 = .ok (.iconst (-1), 1) := by decide +kernel
theorem d_Mod_init_193 : decode b_Mod_init 193 = .ok (.iastore, 1) := by decide +kernel
theorem d_Mod_init_194 : decode b_Mod_init 194 = .ok (.iinc 2 1, 3) := by decide +kernel
theorem d_Mod_init_197 : decode b_Mod_init 197 = .ok (.goto (-18), 3) := by decide +kernel
theorem d_Mod_init_200 : decode b_Mod_init 200 = .ok (.aload_n 0, 1) := by decide +kernel
theorem d_Mod_init_201 : decode b_Mod_init 201 = .ok (.invokevirtual 75, 3) := by decide +kernel
theorem d_Mod_init_204 : decode b_Mod_init 204 = .ok (.return_, 1) := by decide +kernel
theorem d_Mod_forget_0 : decode b_Mod_forget 0 = .ok (.iconst 0, 1) := by decide +kernel
theorem d_Mod_forget_1 : decode b_Mod_forget 1 = .ok (.istore_n 1, 1) := by decide +kernel
theorem d_Mod_forget_2 : decode b_Mod_forget 2 = .ok (.iload_n 1, 1) := by decide +kernel
theorem d_Mod_forget_3 : decode b_Mod_forget 3 = .ok (.aload_n 0, 1) := by decide +kernel
theorem d_Mod_forget_4 : decode b_Mod_forget 4 = .ok (.getfield 81, 3) := by decide +kernel
theorem d_Mod_forget_7 : decode b_Mod_forget 7 = .ok (.if_icmp .ge 21, 3) := by decide +kernel
theorem d_Mod_forget_10 : decode b_Mod_forget 10 = .ok (.aload_n 0, 1) := by decide +kernel
theorem d_Mod_forget_11 : decode b_Mod_forget 11 = .ok (.getfield 56, 3) := by decide +kernel
theorem d_Mod_forget_14 : decode b_Mod_forget 14 = .ok (.aload_n 0, 1) := by decide +kernel
theorem d_Mod_forget_15 : decode b_Mod_forget 15 = .ok (.getfield 44, 3) := by decide +kernel
theorem d_Mod_forget_18 : decode b_Mod_forget 18 = .ok (.iload_n 1, 1) := by decide +kernel
theorem d_Mod_forget_19 : decode b_Mod_forget 19 = .ok (.iaload, 1) := by decide +kernel
theorem d_Mod_forget_20 : decode b_Mod_forget 20 = .ok (.iconst 0, 1) := by decide +kernel
theorem d_Mod_forget_21 : decode b_Mod_forget 21 = .ok (.bastore, 1) := by decide +kernel
theorem d_Mod_forget_22 : decode b_Mod_forget 22 = .ok (.iinc 1 1, 3) := by decide +kernel
theorem d_Mod_forget_25 : decode b_Mod_forget 25 = .ok (.goto (-23), 3) := by decide +kernel
theorem d_Mod_forget_28 : decode b_Mod_forget 28 = .ok (.aload_n 0, 1) := by decide +kernel
theorem d_Mod_forget_29 : decode b_Mod_forget 29 = .ok (.iconst 0, 1) := by decide +kernel
theorem d_Mod_forget_30 : decode b_Mod_forget 30 = .ok (.putfield 81, 3) := by decide +kernel
theorem d_Mod_forget_33 : decode b_Mod_forget 33 = .ok (.aload_n 0, 1) := by decide +kernel
theorem d_Mod_forget_34 : decode b_Mod_forget 34 = .ok (.iconst 0, 1) := by decide +kernel
theorem d_Mod_forget_35 : decode b_Mod_forget 35 = .ok (.putfield 84, 3) := by decide +kernel
theorem d_Mod_forget_38 : decode b_Mod_forget 38 = .ok (.aload_n 0, 1) := by decide +kernel
theorem d_Mod_forget_39 : decode b_Mod_forget 39 = .ok (.iconst 0, 1) := by decide +kernel
theorem d_Mod_forget_40 : decode b_Mod_forget 40 = .ok (.putfield 87, 3) := by decide +kernel
theorem d_Mod_forget_43 : decode b_Mod_forget 43 = .ok (.aload_n 0, 1) := by decide +kernel
theorem d_Mod_forget_44 : decode b_Mod_forget 44 = .ok (.iconst 0, 1) := by decide +kernel
theorem d_Mod_forget_45 : decode b_Mod_forget 45 = .ok (.putfield 91, 3) := by decide +kernel
theorem d_Mod_forget_48 : decode b_Mod_forget 48 = .ok (.aload_n 0, 1) := by decide +kernel
theorem d_Mod_forget_49 : decode b_Mod_forget 49 = .ok (.invokevirtual 94, 3) := by decide +kernel
theorem d_Mod_forget_52 : decode b_Mod_forget 52 = .ok (.return_, 1) := by decide +kernel
theorem d_Mod_anew_0 : decode b_Mod_anew 0 = .ok (.aload_n 0, 1) := by decide +kernel
theorem d_Mod_anew_1 : decode b_Mod_anew 1 = .ok (.iconst 0, 1) := by decide +kernel
theorem d_Mod_anew_2 : decode b_Mod_anew 2 = .ok (.putfield 100, 3) := by decide +kernel
theorem d_Mod_anew_5 : decode b_Mod_anew 5 = .ok (.aload_n 0, 1) := by decide +kernel
theorem d_Mod_anew_6 : decode b_Mod_anew 6 = .ok (.iconst (-1), 1) := by decide +kernel
theorem d_Mod_anew_7 : decode b_Mod_anew 7 = .ok (.putfield 62, 3) := by decide +kernel
theorem d_Mod_anew_10 : decode b_Mod_anew 10 = .ok (.aload_n 0, 1) := by decide +kernel
theorem d_Mod_anew_11 : decode b_Mod_anew 11 = .ok (.aload_n 0, 1) := by decide +kernel
theorem d_Mod_anew_12 : decode b_Mod_anew 12 = .ok (.invokevirtual 103, 3) := by decide +kernel
theorem d_Mod_anew_15 : decode b_Mod_anew 15 = .ok (.putfield 107, 3) := by decide +kernel
theorem d_Mod_anew_18 : decode b_Mod_anew 18 = .ok (.iconst 0, 1) := by decide +kernel
theorem d_Mod_anew_19 : decode b_Mod_anew 19 = .ok (.istore_n 1, 1) := by decide +kernel
theorem d_Mod_anew_20 : decode b_Mod_anew 20 = .ok (.iload_n 1, 1) := by decide +kernel
theorem d_Mod_anew_21 : decode b_Mod_anew 21 = .ok (.aload_n 0, 1) := by decide +kernel
theorem d_Mod_anew_22 : decode b_Mod_anew 22 = .ok (.getfield 72, 3) := by decide +kernel
theorem d_Mod_anew_25 : decode b_Mod_anew 25 = .ok (.if_icmp .ge 45, 3) := by decide +kernel
theorem d_Mod_anew_28 : decode b_Mod_anew 28 = .ok (.aload_n 0, 1) := by decide +kernel
theorem d_Mod_anew_29 : decode b_Mod_anew 29 = .ok (.getfield 66, 3) := by decide +kernel
theorem d_Mod_anew_32 : decode b_Mod_anew 32 = .ok (.iload_n 1, 1) := by decide +kernel
theorem d_Mod_anew_33 : decode b_Mod_anew 33 = .ok (.aload_n 0, 1) := by decide +kernel
theorem d_Mod_anew_34 : decode b_Mod_anew 34 = .ok (.getfield 13, 3) := by decide +kernel
theorem d_Mod_anew_37 : decode b_Mod_anew 37 = .ok (.iload_n 1, 1) := by decide +kernel
theorem d_Mod_anew_38 : decode b_Mod_anew 38 = .ok (.iaload, 1) := by decide +kernel
theorem d_Mod_anew_39 : decode b_Mod_anew 39 = .ok (.bipush (-2), 2) := by decide +kernel
theorem d_Mod_anew_41 : decode b_Mod_anew 41 = .ok (.if_icmp .ne 21, 3) := by decide +kernel
theorem d_Mod_anew_44 : decode b_Mod_anew 44 = .ok (.aload_n 0, 1) := by decide +kernel
theorem d_Mod_anew_45 : decode b_Mod_anew 45 = .ok (.getfield 31, 3) := by decide +kernel
theorem d_Mod_anew_48 : decode b_Mod_anew 48 = .ok (.aload_n 0, 1) := by decide +kernel
theorem d_Mod_anew_49 : decode b_Mod_anew 49 = .ok (.getfield 22, 3) := by decide +kernel
theorem d_Mod_anew_52 : decode b_Mod_anew 52 = .ok (.iload_n 1, 1) := by decide +kernel
theorem d_Mod_anew_53 : decode b_Mod_anew 53 = .ok (.iaload, 1) := by decide +kernel
theorem d_Mod_anew_54 : decode b_Mod_anew 54 = .ok (.baload, 1) := by decide +kernel
theorem d_Mod_anew_55 : decode b_Mod_anew 55 = .ok (.ifCond .eq 7, 3) := by decide +kernel
theorem d_Mod_anew_58 : decode b_Mod_anew 58 = .ok (.iconst 1, 1) := by decide +kernel
theorem d_Mod_anew_59 : decode b_Mod_anew 59 = .ok (.goto 4, 3) := by decide +kernel
theorem d_Mod_anew_62 : decode b_Mod_anew 62 = .ok (.iconst 0, 1) := by decide +kernel
theorem d_Mod_anew_63 : decode b_Mod_anew 63 = .ok (.bastore, 1) := by decide +kernel
theorem d_Mod_anew_64 : decode b_Mod_anew 64 = .ok (.iinc 1 1, 3) := by decide +kernel
theorem d_Mod_anew_67 : decode b_Mod_anew 67 = .ok (.goto (-47), 3) := by decide +kernel
theorem d_Mod_anew_70 : decode b_Mod_anew 70 = .ok (.return_, 1) := by decide +kernel
theorem d_Mod_beginning_0 : decode b_Mod_beginning 0 = .ok (.iconst 0, 1) := by decide +kernel
theorem d_Mod_beginning_1 : decode b_Mod_beginning 1 = .ok (.istore_n 1, 1) := by decide +kernel
theorem d_Mod_beginning_2 : decode b_Mod_beginning 2 = .ok (.iconst 0, 1) := by decide +kernel
theorem d_Mod_beginning_3 : decode b_Mod_beginning 3 = .ok (.istore_n 2, 1) := by decide +kernel
theorem d_Mod_beginning_4 : decode b_Mod_beginning 4 = .ok (.iload_n 2, 1) := by decide +kernel
theorem d_Mod_beginning_5 : decode b_Mod_beginning 5 = .ok (.aload_n 0, 1) := by decide +kernel
theorem d_Mod_beginning_6 : decode b_Mod_beginning 6 = .ok (.getfield 97, 3) := by decide +kernel
theorem d_Mod_beginning_9 : decode b_Mod_beginning 9 = .ok (.if_icmp .ge 28, 3) := by decide +kernel
theorem d_Mod_beginning_12 : decode b_Mod_beginning 12 = .ok (.iload_n 1, 1) := by decide +kernel
theorem d_Mod_beginning_13 : decode b_Mod_beginning 13 = .ok (.aload_n 0, 1) := by decide +kernel
theorem d_Mod_beginning_14 : decode b_Mod_beginning 14 = .ok (.getfield 31, 3) := by decide +kernel
theorem d_Mod_beginning_17 : decode b_Mod_beginning 17 = .ok (.iload_n 2, 1) := by decide +kernel
theorem d_Mod_beginning_18 : decode b_Mod_beginning 18 = .ok (.baload, 1) := by decide +kernel
theorem d_Mod_beginning_19 : decode b_Mod_beginning 19 = .ok (.ifCond .eq 9, 3) := by decide +kernel
theorem d_Mod_beginning_22 : decode b_Mod_beginning 22 = .ok (.iconst 1, 1) := by decide +kernel
theorem d_Mod_beginning_23 : decode b_Mod_beginning 23 = .ok (.iload_n 2, 1) := by decide +kernel
theorem d_Mod_beginning_24 : decode b_Mod_beginning 24 = .ok (.ishl, 1) := by decide +kernel
theorem d_Mod_beginning_25 : decode b_Mod_beginning 25 = .ok (.goto 4, 3) := by decide +kernel
theorem d_Mod_beginning_28 : decode b_Mod_beginning 28 = .ok (.iconst 0, 1) := by decide +kernel
theorem d_Mod_beginning_29 : decode b_Mod_beginning 29 = .ok (.ior, 1) := by decide +kernel
theorem d_Mod_beginning_30 : decode b_Mod_beginning 30 = .ok (.istore_n 1, 1) := by decide +kernel
theorem d_Mod_beginning_31 : decode b_Mod_beginning 31 = .ok (.iinc 2 1, 3) := by decide +kernel
theorem d_Mod_beginning_34 : decode b_Mod_beginning 34 = .ok (.goto (-30), 3) := by decide +kernel
theorem d_Mod_beginning_37 : decode b_Mod_beginning 37 = .ok (.iload_n 1, 1) := by decide +kernel
theorem d_Mod_beginning_38 : decode b_Mod_beginning 38 = .ok (.ireturn, 1) := by decide +kernel
theorem d_Mod_thrown_0 : decode b_Mod_thrown 0 = .ok (.aload_n 0, 1) := by decide +kernel
theorem d_Mod_thrown_1 : decode b_Mod_thrown 1 = .ok (.getfield 78, 3) := by decide +kernel
theorem d_Mod_thrown_4 : decode b_Mod_thrown 4 = .ok (.ireturn, 1) := by decide +kernel
theorem d_Mod_state_0 : decode b_Mod_state 0 = .ok (.aload_n 0, 1) := by decide +kernel
theorem d_Mod_state_1 : decode b_Mod_state 1 = .ok (.iload_n 1, 1) := by decide +kernel
theorem d_Mod_state_2 : decode b_Mod_state 2 = .ok (.iconst 2, 1) := by decide +kernel
theorem d_Mod_state_3 : decode b_Mod_state 3 = .ok (.invokestatic 110, 3) := by decide +kernel
theorem d_Mod_state_6 : decode b_Mod_state 6 = .ok (.ifCond .ne 7, 3) := by decide +kernel
theorem d_Mod_state_9 : decode b_Mod_state 9 = .ok (.iconst 1, 1) := by decide +kernel
theorem d_Mod_state_10 : decode b_Mod_state 10 = .ok (.goto 4, 3) := by decide +kernel
theorem d_Mod_state_13 : decode b_Mod_state 13 = .ok (.iconst 0, 1) := by decide +kernel
theorem d_Mod_state_14 : decode b_Mod_state 14 = .ok (.aload_n 0, 1) := by decide +kernel
theorem d_Mod_state_15 : decode b_Mod_state 15 = .ok (.getfield 97, 3) := by decide +kernel
theorem d_Mod_state_18 : decode b_Mod_state 18 = .ok (.bipush 14, 2) := by decide +kernel
theorem d_Mod_state_20 : decode b_Mod_state 20 = .ok (.if_icmp .eq 12, 3) := by decide +kernel
theorem d_Mod_state_23 : decode b_Mod_state 23 = .ok (.aload_n 0, 1) := by decide +kernel
theorem d_Mod_state_24 : decode b_Mod_state 24 = .ok (.getfield 72, 3) := by decide +kernel
theorem d_Mod_state_27 : decode b_Mod_state 27 = .ok (.bipush 100, 2) := by decide +kernel
theorem d_Mod_state_29 : decode b_Mod_state 29 = .ok (.if_icmp .ne 7, 3) := by decide +kernel
theorem d_Mod_state_32 : decode b_Mod_state 32 = .ok (.iconst 1, 1) := by decide +kernel
theorem d_Mod_state_33 : decode b_Mod_state 33 = .ok (.goto 4, 3) := by decide +kernel
theorem d_Mod_state_36 : decode b_Mod_state 36 = .ok (.iconst 0, 1) := by decide +kernel
theorem d_Mod_state_37 : decode b_Mod_state 37 = .ok (.invokevirtual 114, 3) := by decide +kernel
theorem d_Mod_state_40 : decode b_Mod_state 40 = .ok (.ifCond .eq 5, 3) := by decide +kernel
theorem d_Mod_state_43 : decode b_Mod_state 43 = .ok (.iconst 0, 1) := by decide +kernel
theorem d_Mod_state_44 : decode b_Mod_state 44 = .ok (.ireturn, 1) := by decide +kernel
theorem d_Mod_state_45 : decode b_Mod_state 45 = .ok (.aload_n 0, 1) := by decide +kernel
theorem d_Mod_state_46 : decode b_Mod_state 46 = .ok (.getfield 13, 3) := by decide +kernel
theorem d_Mod_state_49 : decode b_Mod_state 49 = .ok (.aload_n 0, 1) := by decide +kernel
theorem d_Mod_state_50 : decode b_Mod_state 50 = .ok (.getfield 72, 3) := by decide +kernel
theorem d_Mod_state_53 : decode b_Mod_state 53 = .ok (.bipush (-2), 2) := by decide +kernel
theorem d_Mod_state_55 : decode b_Mod_state 55 = .ok (.iastore, 1) := by decide +kernel
theorem d_Mod_state_56 : decode b_Mod_state 56 = .ok (.aload_n 0, 1) := by decide +kernel
theorem d_Mod_state_57 : decode b_Mod_state 57 = .ok (.getfield 22, 3) := by decide +kernel
theorem d_Mod_state_60 : decode b_Mod_state 60 = .ok (.aload_n 0, 1) := by decide +kernel
theorem d_Mod_state_61 : decode b_Mod_state 61 = .ok (.getfield 72, 3) := by decide +kernel
theorem d_Mod_state_64 : decode b_Mod_state 64 = .ok (.aload_n 0, 1) := by decide +kernel
theorem d_Mod_state_65 : decode b_Mod_state 65 = .ok (.getfield 97, 3) := by decide +kernel
theorem d_Mod_state_68 : decode b_Mod_state 68 = .ok (.iastore, 1) := by decide +kernel
theorem d_Mod_state_69 : decode b_Mod_state 69 = .ok (.aload_n 0, 1) := by decide +kernel
theorem d_Mod_state_70 : decode b_Mod_state 70 = .ok (.getfield 25, 3) := by decide +kernel
theorem d_Mod_state_73 : decode b_Mod_state 73 = .ok (.aload_n 0, 1) := by decide +kernel
theorem d_Mod_state_74 : decode b_Mod_state 74 = .ok (.getfield 97, 3) := by decide +kernel
theorem d_Mod_state_77 : decode b_Mod_state 77 = .ok (.aload_n 0, 1) := by decide +kernel
theorem d_Mod_state_78 : decode b_Mod_state 78 = .ok (.getfield 72, 3) := by decide +kernel
theorem d_Mod_state_81 : decode b_Mod_state 81 = .ok (.iastore, 1) := by decide +kernel
theorem d_Mod_state_82 : decode b_Mod_state 82 = .ok (.aload_n 0, 1) := by decide +kernel
theorem d_Mod_state_83 : decode b_Mod_state 83 = .ok (.getfield 28, 3) := by decide +kernel
theorem d_Mod_state_86 : decode b_Mod_state 86 = .ok (.aload_n 0, 1) := by decide +kernel
theorem d_Mod_state_87 : decode b_Mod_state 87 = .ok (.getfield 97, 3) := by decide +kernel
theorem d_Mod_state_90 : decode b_Mod_state 90 = .ok (.aload_n 0, 1) := by decide +kernel
theorem d_Mod_state_91 : decode b_Mod_state 91 = .ok (.getfield 72, 3) := by decide +kernel
theorem d_Mod_state_94 : decode b_Mod_state 94 = .ok (.iastore, 1) := by decide +kernel
theorem d_Mod_state_95 : decode b_Mod_state 95 = .ok (.aload_n 0, 1) := by decide +kernel
theorem d_Mod_state_96 : decode b_Mod_state 96 = .ok (.getfield 31, 3) := by decide +kernel
theorem d_Mod_state_99 : decode b_Mod_state 99 = .ok (.aload_n 0, 1) := by decide +kernel
theorem d_Mod_state_100 : decode b_Mod_state 100 = .ok (.getfield 97, 3) := by decide +kernel
theorem d_Mod_state_103 : decode b_Mod_state 103 = .ok (.iload_n 2, 1) := by decide +kernel
theorem d_Mod_state_104 : decode b_Mod_state 104 = .ok (.bastore, 1) := by decide +kernel
theorem d_Mod_state_105 : decode b_Mod_state 105 = .ok (.aload_n 0, 1) := by decide +kernel
theorem d_Mod_state_106 : decode b_Mod_state 106 = .ok (.getfield 7, 3) := by decide +kernel
theorem d_Mod_state_109 : decode b_Mod_state 109 = .ok (.iload_n 1, 1) := by decide +kernel
theorem d_Mod_state_110 : decode b_Mod_state 110 = .ok (.dup2, 1) := by decide +kernel
theorem d_Mod_state_111 : decode b_Mod_state 111 = .ok (.iaload, 1) := by decide +kernel
theorem d_Mod_state_112 : decode b_Mod_state 112 = .ok (.iconst 1, 1) := by decide +kernel
theorem d_Mod_state_113 : decode b_Mod_state 113 = .ok (.iadd, 1) := by decide +kernel
theorem d_Mod_state_114 : decode b_Mod_state 114 = .ok (.iastore, 1) := by decide +kernel
theorem d_Mod_state_115 : decode b_Mod_state 115 = .ok (.aload_n 0, 1) := by decide +kernel
theorem d_Mod_state_116 : decode b_Mod_state 116 = .ok (.dup, 1) := by decide +kernel
theorem d_Mod_state_117 : decode b_Mod_state 117 = .ok (.getfield 97, 3) := by decide +kernel
theorem d_Mod_state_120 : decode b_Mod_state 120 = .ok (.iconst 1, 1) := by decide +kernel
theorem d_Mod_state_121 : decode b_Mod_state 121 = .ok (.iadd, 1) := by decide +kernel
theorem d_Mod_state_122 : decode b_Mod_state 122 = .ok (.putfield 97, 3) := by decide +kernel
theorem d_Mod_state_125 : decode b_Mod_state 125 = .ok (.aload_n 0, 1) := by decide +kernel
theorem d_Mod_state_126 : decode b_Mod_state 126 = .ok (.dup, 1) := by decide +kernel
theorem d_Mod_state_127 : decode b_Mod_state 127 = .ok (.getfield 72, 3) := by decide +kernel
theorem d_Mod_state_130 : decode b_Mod_state 130 = .ok (.iconst 1, 1) := by decide +kernel
theorem d_Mod_state_131 : decode b_Mod_state 131 = .ok (.iadd, 1) := by decide +kernel
theorem d_Mod_state_132 : decode b_Mod_state 132 = .ok (.putfield 72, 3) := by decide +kernel
theorem d_Mod_state_135 : decode b_Mod_state 135 = .ok (.aload_n 0, 1) := by decide +kernel
theorem d_Mod_state_136 : decode b_Mod_state 136 = .ok (.invokevirtual 75, 3) := by decide +kernel
theorem d_Mod_state_139 : decode b_Mod_state 139 = .ok (.aload_n 0, 1) := by decide +kernel
theorem d_Mod_state_140 : decode b_Mod_state 140 = .ok (.getfield 72, 3) := by decide +kernel
theorem d_Mod_state_143 : decode b_Mod_state 143 = .ok (.iconst 1, 1) := by decide +kernel
theorem d_Mod_state_144 : decode b_Mod_state 144 = .ok (.isub, 1) := by decide +kernel
theorem d_Mod_state_145 : decode b_Mod_state 145 = .ok (.ireturn, 1) := by decide +kernel
theorem d_Mod_isOf_0 : decode b_Mod_isOf 0 = .ok (.iload_n 0, 1) := by decide +kernel
theorem d_Mod_isOf_1 : decode b_Mod_isOf 1 = .ok (.ifCond .lt 12, 3) := by decide +kernel
theorem d_Mod_isOf_4 : decode b_Mod_isOf 4 = .ok (.iload_n 0, 1) := by decide +kernel
theorem d_Mod_isOf_5 : decode b_Mod_isOf 5 = .ok (.iload_n 1, 1) := by decide +kernel
theorem d_Mod_isOf_6 : decode b_Mod_isOf 6 = .ok (.if_icmp .ge 7, 3) := by decide +kernel
theorem d_Mod_isOf_9 : decode b_Mod_isOf 9 = .ok (.iconst 1, 1) := by decide +kernel
theorem d_Mod_isOf_10 : decode b_Mod_isOf 10 = .ok (.goto 4, 3) := by decide +kernel
theorem d_Mod_isOf_13 : decode b_Mod_isOf 13 = .ok (.iconst 0, 1) := by decide +kernel
theorem d_Mod_isOf_14 : decode b_Mod_isOf 14 = .ok (.ireturn, 1) := by decide +kernel
theorem d_Mod_throwing_0 : decode b_Mod_throwing 0 = .ok (.aload_n 0, 1) := by decide +kernel
theorem d_Mod_throwing_1 : decode b_Mod_throwing 1 = .ok (.iload_n 1, 1) := by decide +kernel
theorem d_Mod_throwing_2 : decode b_Mod_throwing 2 = .ok (.ifCond .eq 7, 3) := by decide +kernel
theorem d_Mod_throwing_5 : decode b_Mod_throwing 5 = .ok (.iconst 1, 1) := by decide +kernel
theorem d_Mod_throwing_6 : decode b_Mod_throwing 6 = .ok (.goto 12, 3) := by decide +kernel
theorem d_Mod_throwing_9 : decode b_Mod_throwing 9 = .ok (.iload_n 2, 1) := by decide +kernel
theorem d_Mod_throwing_10 : decode b_Mod_throwing 10 = .ok (.ifCond .eq 7, 3) := by decide +kernel
theorem d_Mod_throwing_13 : decode b_Mod_throwing 13 = .ok (.iconst 2, 1) := by decide +kernel
theorem d_Mod_throwing_14 : decode b_Mod_throwing 14 = .ok (.goto 4, 3) := by decide +kernel
theorem d_Mod_throwing_17 : decode b_Mod_throwing 17 = .ok (.iconst 0, 1) := by decide +kernel
theorem d_Mod_throwing_18 : decode b_Mod_throwing 18 = .ok (.putfield 78, 3) := by decide +kernel
theorem d_Mod_throwing_21 : decode b_Mod_throwing 21 = .ok (.aload_n 0, 1) := by decide +kernel
theorem d_Mod_throwing_22 : decode b_Mod_throwing 22 = .ok (.getfield 78, 3) := by decide +kernel
theorem d_Mod_throwing_25 : decode b_Mod_throwing 25 = .ok (.ifCond .le 7, 3) := by decide +kernel
theorem d_Mod_throwing_28 : decode b_Mod_throwing 28 = .ok (.iconst 1, 1) := by decide +kernel
theorem d_Mod_throwing_29 : decode b_Mod_throwing 29 = .ok (.goto 4, 3) := by decide +kernel
theorem d_Mod_throwing_32 : decode b_Mod_throwing 32 = .ok (.iconst 0, 1) := by decide +kernel
theorem d_Mod_throwing_33 : decode b_Mod_throwing 33 = .ok (.ireturn, 1) := by decide +kernel
theorem d_Mod_gate_0 : decode b_Mod_gate 0 = .ok (.iload_n 1, 1) := by decide +kernel
theorem d_Mod_gate_1 : decode b_Mod_gate 1 = .ok (.bipush 6, 2) := by decide +kernel
theorem d_Mod_gate_3 : decode b_Mod_gate 3 = .ok (.invokestatic 110, 3) := by decide +kernel
theorem d_Mod_gate_6 : decode b_Mod_gate 6 = .ok (.ifCond .eq 35, 3) := by decide +kernel
theorem d_Mod_gate_9 : decode b_Mod_gate 9 = .ok (.iload_n 1, 1) := by decide +kernel
theorem d_Mod_gate_10 : decode b_Mod_gate 10 = .ok (.iconst 4, 1) := by decide +kernel
theorem d_Mod_gate_11 : decode b_Mod_gate 11 = .ok (.if_icmp .ge 14, 3) := by decide +kernel
theorem d_Mod_gate_14 : decode b_Mod_gate 14 = .ok (.iload_n 2, 1) := by decide +kernel
theorem d_Mod_gate_15 : decode b_Mod_gate 15 = .ok (.aload_n 0, 1) := by decide +kernel
theorem d_Mod_gate_16 : decode b_Mod_gate 16 = .ok (.getfield 72, 3) := by decide +kernel
theorem d_Mod_gate_19 : decode b_Mod_gate 19 = .ok (.invokestatic 110, 3) := by decide +kernel
theorem d_Mod_gate_22 : decode b_Mod_gate 22 = .ok (.ifCond .eq 19, 3) := by decide +kernel
theorem d_Mod_gate_25 : decode b_Mod_gate 25 = .ok (.iload_n 1, 1) := by decide +kernel
theorem d_Mod_gate_26 : decode b_Mod_gate 26 = .ok (.iconst 3, 1) := by decide +kernel
theorem d_Mod_gate_27 : decode b_Mod_gate 27 = .ok (.if_icmp .ge 18, 3) := by decide +kernel
theorem d_Mod_gate_30 : decode b_Mod_gate 30 = .ok (.iload_n 3, 1) := by decide +kernel
theorem d_Mod_gate_31 : decode b_Mod_gate 31 = .ok (.aload_n 0, 1) := by decide +kernel
theorem d_Mod_gate_32 : decode b_Mod_gate 32 = .ok (.getfield 72, 3) := by decide +kernel
theorem d_Mod_gate_35 : decode b_Mod_gate 35 = .ok (.invokestatic 110, 3) := by decide +kernel
theorem d_Mod_gate_38 : decode b_Mod_gate 38 = .ok (.ifCond .ne 7, 3) := by decide +kernel
theorem d_Mod_gate_41 : decode b_Mod_gate 41 = .ok (.iconst 1, 1) := by decide +kernel
theorem d_Mod_gate_42 : decode b_Mod_gate 42 = .ok (.goto 4, 3) := by decide +kernel
theorem d_Mod_gate_45 : decode b_Mod_gate 45 = .ok (.iconst 0, 1) := by decide +kernel
theorem d_Mod_gate_46 : decode b_Mod_gate 46 = .ok (.istore 4, 2) := by decide +kernel
theorem d_Mod_gate_48 : decode b_Mod_gate 48 = .ok (.aload_n 0, 1) := by decide +kernel
theorem d_Mod_gate_49 : decode b_Mod_gate 49 = .ok (.iload 4, 2) := by decide +kernel
theorem d_Mod_gate_51 : decode b_Mod_gate 51 = .ok (.aload_n 0, 1) := by decide +kernel
theorem d_Mod_gate_52 : decode b_Mod_gate 52 = .ok (.getfield 72, 3) := by decide +kernel
theorem d_Mod_gate_55 : decode b_Mod_gate 55 = .ok (.bipush 100, 2) := by decide +kernel
theorem d_Mod_gate_57 : decode b_Mod_gate 57 = .ok (.if_icmp .ne 7, 3) := by decide +kernel
theorem d_Mod_gate_60 : decode b_Mod_gate 60 = .ok (.iconst 1, 1) := by decide +kernel
theorem d_Mod_gate_61 : decode b_Mod_gate 61 = .ok (.goto 4, 3) := by decide +kernel
theorem d_Mod_gate_64 : decode b_Mod_gate 64 = .ok (.iconst 0, 1) := by decide +kernel
theorem d_Mod_gate_65 : decode b_Mod_gate 65 = .ok (.invokevirtual 114, 3) := by decide +kernel
theorem d_Mod_gate_68 : decode b_Mod_gate 68 = .ok (.ifCond .eq 5, 3) := by decide +kernel
theorem d_Mod_gate_71 : decode b_Mod_gate 71 = .ok (.iconst 0, 1) := by decide +kernel
theorem d_Mod_gate_72 : decode b_Mod_gate 72 = .ok (.ireturn, 1) := by decide +kernel
theorem d_Mod_gate_73 : decode b_Mod_gate 73 = .ok (.aload_n 0, 1) := by decide +kernel
theorem d_Mod_gate_74 : decode b_Mod_gate 74 = .ok (.getfield 13, 3) := by decide +kernel
theorem d_Mod_gate_77 : decode b_Mod_gate 77 = .ok (.aload_n 0, 1) := by decide +kernel
theorem d_Mod_gate_78 : decode b_Mod_gate 78 = .ok (.getfield 72, 3) := by decide +kernel
theorem d_Mod_gate_81 : decode b_Mod_gate 81 = .ok (.iload_n 1, 1) := by decide +kernel
theorem d_Mod_gate_82 : decode b_Mod_gate 82 = .ok (.iastore, 1) := by decide +kernel
theorem d_Mod_gate_83 : decode b_Mod_gate 83 = .ok (.aload_n 0, 1) := by decide +kernel
theorem d_Mod_gate_84 : decode b_Mod_gate 84 = .ok (.getfield 16, 3) := by decide +kernel
theorem d_Mod_gate_87 : decode b_Mod_gate 87 = .ok (.aload_n 0, 1) := by decide +kernel
theorem d_Mod_gate_88 : decode b_Mod_gate 88 = .ok (.getfield 72, 3) := by decide +kernel
theorem d_Mod_gate_91 : decode b_Mod_gate 91 = .ok (.iload_n 1, 1) := by decide +kernel
theorem d_Mod_gate_92 : decode b_Mod_gate 92 = .ok (.iconst 4, 1) := by decide +kernel
theorem d_Mod_gate_93 : decode b_Mod_gate 93 = .ok (.if_icmp .ge 7, 3) := by decide +kernel
theorem d_Mod_gate_96 : decode b_Mod_gate 96 = .ok (.iload_n 2, 1) := by decide +kernel
theorem d_Mod_gate_97 : decode b_Mod_gate 97 = .ok (.goto 4, 3) := by decide +kernel
theorem d_Mod_gate_100 : decode b_Mod_gate 100 = .ok (.iconst 0, 1) := by decide +kernel
theorem d_Mod_gate_101 : decode b_Mod_gate 101 = .ok (.iastore, 1) := by decide +kernel
theorem d_Mod_gate_102 : decode b_Mod_gate 102 = .ok (.aload_n 0, 1) := by decide +kernel
theorem d_Mod_gate_103 : decode b_Mod_gate 103 = .ok (.getfield 19, 3) := by decide +kernel
theorem d_Mod_gate_106 : decode b_Mod_gate 106 = .ok (.aload_n 0, 1) := by decide +kernel
theorem d_Mod_gate_107 : decode b_Mod_gate 107 = .ok (.getfield 72, 3) := by decide +kernel
theorem d_Mod_gate_110 : decode b_Mod_gate 110 = .ok (.iload_n 1, 1) := by decide +kernel
theorem d_Mod_gate_111 : decode b_Mod_gate 111 = .ok (.iconst 3, 1) := by decide +kernel
theorem d_Mod_gate_112 : decode b_Mod_gate 112 = .ok (.if_icmp .ge 7, 3) := by decide +kernel
theorem d_Mod_gate_115 : decode b_Mod_gate 115 = .ok (.iload_n 3, 1) := by decide +kernel
theorem d_Mod_gate_116 : decode b_Mod_gate 116 = .ok (.goto 4, 3) := by decide +kernel
theorem d_Mod_gate_119 : decode b_Mod_gate 119 = .ok (.iconst 0, 1) := by decide +kernel
theorem d_Mod_gate_120 : decode b_Mod_gate 120 = .ok (.iastore, 1) := by decide +kernel
theorem d_Mod_gate_121 : decode b_Mod_gate 121 = .ok (.aload_n 0, 1) := by decide +kernel
theorem d_Mod_gate_122 : decode b_Mod_gate 122 = .ok (.dup, 1) := by decide +kernel
theorem d_Mod_gate_123 : decode b_Mod_gate 123 = .ok (.getfield 118, 3) := by decide +kernel
theorem d_Mod_gate_126 : decode b_Mod_gate 126 = .ok (.iconst 1, 1) := by decide +kernel
theorem d_Mod_gate_127 : decode b_Mod_gate 127 = .ok (.iadd, 1) := by decide +kernel
theorem d_Mod_gate_128 : decode b_Mod_gate 128 = .ok (.putfield 118, 3) := by decide +kernel
theorem d_Mod_gate_131 : decode b_Mod_gate 131 = .ok (.aload_n 0, 1) := by decide +kernel
theorem d_Mod_gate_132 : decode b_Mod_gate 132 = .ok (.dup, 1) := by decide +kernel
theorem d_Mod_gate_133 : decode b_Mod_gate 133 = .ok (.getfield 72, 3) := by decide +kernel
theorem d_Mod_gate_136 : decode b_Mod_gate 136 = .ok (.iconst 1, 1) := by decide +kernel
theorem d_Mod_gate_137 : decode b_Mod_gate 137 = .ok (.iadd, 1) := by decide +kernel
theorem d_Mod_gate_138 : decode b_Mod_gate 138 = .ok (.putfield 72, 3) := by decide +kernel
theorem d_Mod_gate_141 : decode b_Mod_gate 141 = .ok (.aload_n 0, 1) := by decide +kernel
theorem d_Mod_gate_142 : decode b_Mod_gate 142 = .ok (.invokevirtual 75, 3) := by decide +kernel
theorem d_Mod_gate_145 : decode b_Mod_gate 145 = .ok (.aload_n 0, 1) := by decide +kernel
theorem d_Mod_gate_146 : decode b_Mod_gate 146 = .ok (.getfield 72, 3) := by decide +kernel
theorem d_Mod_gate_149 : decode b_Mod_gate 149 = .ok (.iconst 1, 1) := by decide +kernel
theorem d_Mod_gate_150 : decode b_Mod_gate 150 = .ok (.isub, 1) := by decide +kernel
theorem d_Mod_gate_151 : decode b_Mod_gate 151 = .ok (.ireturn, 1) := by decide +kernel
theorem d_Mod_next_0 : decode b_Mod_next 0 = .ok (.aload_n 0, 1) := by decide +kernel
theorem d_Mod_next_1 : decode b_Mod_next 1 = .ok (.iload_n 1, 1) := by decide +kernel
theorem d_Mod_next_2 : decode b_Mod_next 2 = .ok (.aload_n 0, 1) := by decide +kernel
theorem d_Mod_next_3 : decode b_Mod_next 3 = .ok (.getfield 72, 3) := by decide +kernel
theorem d_Mod_next_6 : decode b_Mod_next 6 = .ok (.invokestatic 110, 3) := by decide +kernel
theorem d_Mod_next_9 : decode b_Mod_next 9 = .ok (.ifCond .eq 40, 3) := by decide +kernel
theorem d_Mod_next_12 : decode b_Mod_next 12 = .ok (.aload_n 0, 1) := by decide +kernel
theorem d_Mod_next_13 : decode b_Mod_next 13 = .ok (.getfield 13, 3) := by decide +kernel
theorem d_Mod_next_16 : decode b_Mod_next 16 = .ok (.iload_n 1, 1) := by decide +kernel
theorem d_Mod_next_17 : decode b_Mod_next 17 = .ok (.aload_n 0, 1) := by decide +kernel
theorem d_Mod_next_18 : decode b_Mod_next 18 = .ok (.getfield 72, 3) := by decide +kernel
theorem d_Mod_next_21 : decode b_Mod_next 21 = .ok (.invokestatic 110, 3) := by decide +kernel
theorem d_Mod_next_24 : decode b_Mod_next 24 = .ok (.ifCond .eq 7, 3) := by decide +kernel
theorem d_Mod_next_27 : decode b_Mod_next 27 = .ok (.iload_n 1, 1) := by decide +kernel
theorem d_Mod_next_28 : decode b_Mod_next 28 = .ok (.goto 4, 3) := by decide +kernel
theorem d_Mod_next_31 : decode b_Mod_next 31 = .ok (.iconst 0, 1) := by decide +kernel
theorem d_Mod_next_32 : decode b_Mod_next 32 = .ok (.iaload, 1) := by decide +kernel
theorem d_Mod_next_33 : decode b_Mod_next 33 = .ok (.bipush (-2), 2) := by decide +kernel
theorem d_Mod_next_35 : decode b_Mod_next 35 = .ok (.if_icmp .ne 14, 3) := by decide +kernel
theorem d_Mod_next_38 : decode b_Mod_next 38 = .ok (.iload_n 2, 1) := by decide +kernel
theorem d_Mod_next_39 : decode b_Mod_next 39 = .ok (.aload_n 0, 1) := by decide +kernel
theorem d_Mod_next_40 : decode b_Mod_next 40 = .ok (.getfield 72, 3) := by decide +kernel
theorem d_Mod_next_43 : decode b_Mod_next 43 = .ok (.invokestatic 110, 3) := by decide +kernel
theorem d_Mod_next_46 : decode b_Mod_next 46 = .ok (.ifCond .ne 7, 3) := by decide +kernel
theorem d_Mod_next_49 : decode b_Mod_next 49 = .ok (.iconst 1, 1) := by decide +kernel
theorem d_Mod_next_50 : decode b_Mod_next 50 = .ok (.goto 4, 3) := by decide +kernel
theorem d_Mod_next_53 : decode b_Mod_next 53 = .ok (.iconst 0, 1) := by decide +kernel
theorem d_Mod_next_54 : decode b_Mod_next 54 = .ok (.iconst 0, 1) := by decide +kernel
theorem d_Mod_next_55 : decode b_Mod_next 55 = .ok (.invokevirtual 114, 3) := by decide +kernel
theorem d_Mod_next_58 : decode b_Mod_next 58 = .ok (.ifCond .eq 5, 3) := by decide +kernel
theorem d_Mod_next_61 : decode b_Mod_next 61 = .ok (.iconst 0, 1) := by decide +kernel
theorem d_Mod_next_62 : decode b_Mod_next 62 = .ok (.ireturn, 1) := by decide +kernel
theorem d_Mod_next_63 : decode b_Mod_next 63 = .ok (.aload_n 0, 1) := by decide +kernel
theorem d_Mod_next_64 : decode b_Mod_next 64 = .ok (.getfield 28, 3) := by decide +kernel
theorem d_Mod_next_67 : decode b_Mod_next 67 = .ok (.aload_n 0, 1) := by decide +kernel
theorem d_Mod_next_68 : decode b_Mod_next 68 = .ok (.getfield 22, 3) := by decide +kernel
theorem d_Mod_next_71 : decode b_Mod_next 71 = .ok (.iload_n 1, 1) := by decide +kernel
theorem d_Mod_next_72 : decode b_Mod_next 72 = .ok (.iaload, 1) := by decide +kernel
theorem d_Mod_next_73 : decode b_Mod_next 73 = .ok (.iaload, 1) := by decide +kernel
theorem d_Mod_next_74 : decode b_Mod_next 74 = .ok (.istore_n 3, 1) := by decide +kernel
theorem d_Mod_next_75 : decode b_Mod_next 75 = .ok (.aload_n 0, 1) := by decide +kernel
theorem d_Mod_next_76 : decode b_Mod_next 76 = .ok (.getfield 28, 3) := by decide +kernel
theorem d_Mod_next_79 : decode b_Mod_next 79 = .ok (.aload_n 0, 1) := by decide +kernel
theorem d_Mod_next_80 : decode b_Mod_next 80 = .ok (.getfield 22, 3) := by decide +kernel
theorem d_Mod_next_83 : decode b_Mod_next 83 = .ok (.iload_n 1, 1) := by decide +kernel
theorem d_Mod_next_84 : decode b_Mod_next 84 = .ok (.iaload, 1) := by decide +kernel
theorem d_Mod_next_85 : decode b_Mod_next 85 = .ok (.iload_n 2, 1) := by decide +kernel
theorem d_Mod_next_86 : decode b_Mod_next 86 = .ok (.iastore, 1) := by decide +kernel
theorem d_Mod_next_87 : decode b_Mod_next 87 = .ok (.aload_n 0, 1) := by decide +kernel
theorem d_Mod_next_88 : decode b_Mod_next 88 = .ok (.invokevirtual 75, 3) := by decide +kernel
theorem d_Mod_next_91 : decode b_Mod_next 91 = .ok (.iload_n 3, 1) := by decide +kernel
theorem d_Mod_next_92 : decode b_Mod_next 92 = .ok (.ireturn, 1) := by decide +kernel
theorem d_Mod_compare_0 : decode b_Mod_compare 0 = .ok (.aload_n 0, 1) := by decide +kernel
theorem d_Mod_compare_1 : decode b_Mod_compare 1 = .ok (.iload_n 1, 1) := by decide +kernel
theorem d_Mod_compare_2 : decode b_Mod_compare 2 = .ok (.aload_n 0, 1) := by decide +kernel
theorem d_Mod_compare_3 : decode b_Mod_compare 3 = .ok (.getfield 72, 3) := by decide +kernel
theorem d_Mod_compare_6 : decode b_Mod_compare 6 = .ok (.invokestatic 110, 3) := by decide +kernel
theorem d_Mod_compare_9 : decode b_Mod_compare 9 = .ok (.ifCond .eq 14, 3) := by decide +kernel
theorem d_Mod_compare_12 : decode b_Mod_compare 12 = .ok (.iload_n 2, 1) := by decide +kernel
theorem d_Mod_compare_13 : decode b_Mod_compare 13 = .ok (.aload_n 0, 1) := by decide +kernel
theorem d_Mod_compare_14 : decode b_Mod_compare 14 = .ok (.getfield 72, 3) := by decide +kernel
theorem d_Mod_compare_17 : decode b_Mod_compare 17 = .ok (.invokestatic 110, 3) := by decide +kernel
theorem d_Mod_compare_20 : decode b_Mod_compare 20 = .ok (.ifCond .ne 7, 3) := by decide +kernel
theorem d_Mod_compare_23 : decode b_Mod_compare 23 = .ok (.iconst 1, 1) := by decide +kernel
theorem d_Mod_compare_24 : decode b_Mod_compare 24 = .ok (.goto 4, 3) := by decide +kernel
theorem d_Mod_compare_27 : decode b_Mod_compare 27 = .ok (.iconst 0, 1) := by decide +kernel
theorem d_Mod_compare_28 : decode b_Mod_compare 28 = .ok (.aload_n 0, 1) := by decide +kernel
theorem d_Mod_compare_29 : decode b_Mod_compare 29 = .ok (.getfield 121, 3) := by decide +kernel
theorem d_Mod_compare_32 : decode b_Mod_compare 32 = .ok (.bipush 16, 2) := by decide +kernel
theorem d_Mod_compare_34 : decode b_Mod_compare 34 = .ok (.if_icmp .ne 7, 3) := by decide +kernel
theorem d_Mod_compare_37 : decode b_Mod_compare 37 = .ok (.iconst 1, 1) := by decide +kernel
theorem d_Mod_compare_38 : decode b_Mod_compare 38 = .ok (.goto 4, 3) := by decide +kernel
theorem d_Mod_compare_41 : decode b_Mod_compare 41 = .ok (.iconst 0, 1) := by decide +kernel
theorem d_Mod_compare_42 : decode b_Mod_compare 42 = .ok (.invokevirtual 114, 3) := by decide +kernel
theorem d_Mod_compare_45 : decode b_Mod_compare 45 = .ok (.ifCond .eq 5, 3) := by decide +kernel
theorem d_Mod_compare_48 : decode b_Mod_compare 48 = .ok (.iconst 0, 1) := by decide +kernel
theorem d_Mod_compare_49 : decode b_Mod_compare 49 = .ok (.ireturn, 1) := by decide +kernel
theorem d_Mod_compare_50 : decode b_Mod_compare 50 = .ok (.aload_n 0, 1) := by decide +kernel
theorem d_Mod_compare_51 : decode b_Mod_compare 51 = .ok (.getfield 35, 3) := by decide +kernel
theorem d_Mod_compare_54 : decode b_Mod_compare 54 = .ok (.aload_n 0, 1) := by decide +kernel
theorem d_Mod_compare_55 : decode b_Mod_compare 55 = .ok (.getfield 121, 3) := by decide +kernel
theorem d_Mod_compare_58 : decode b_Mod_compare 58 = .ok (.iload_n 1, 1) := by decide +kernel
theorem d_Mod_compare_59 : decode b_Mod_compare 59 = .ok (.iastore, 1) := by decide +kernel
theorem d_Mod_compare_60 : decode b_Mod_compare 60 = .ok (.aload_n 0, 1) := by decide +kernel
theorem d_Mod_compare_61 : decode b_Mod_compare 61 = .ok (.getfield 38, 3) := by decide +kernel
theorem d_Mod_compare_64 : decode b_Mod_compare 64 = .ok (.aload_n 0, 1) := by decide +kernel
theorem d_Mod_compare_65 : decode b_Mod_compare 65 = .ok (.getfield 121, 3) := by decide +kernel
theorem d_Mod_compare_68 : decode b_Mod_compare 68 = .ok (.iload_n 2, 1) := by decide +kernel
theorem d_Mod_compare_69 : decode b_Mod_compare 69 = .ok (.iastore, 1) := by decide +kernel
theorem d_Mod_compare_70 : decode b_Mod_compare 70 = .ok (.aload_n 0, 1) := by decide +kernel
theorem d_Mod_compare_71 : decode b_Mod_compare 71 = .ok (.dup, 1) := by decide +kernel
theorem d_Mod_compare_72 : decode b_Mod_compare 72 = .ok (.getfield 121, 3) := by decide +kernel
theorem d_Mod_compare_75 : decode b_Mod_compare 75 = .ok (.iconst 1, 1) := by decide +kernel
theorem d_Mod_compare_76 : decode b_Mod_compare 76 = .ok (.iadd, 1) := by decide +kernel
theorem d_Mod_compare_77 : decode b_Mod_compare 77 = .ok (.putfield 121, 3) := by decide +kernel
theorem d_Mod_compare_80 : decode b_Mod_compare 80 = .ok (.aload_n 0, 1) := by decide +kernel
theorem d_Mod_compare_81 : decode b_Mod_compare 81 = .ok (.invokevirtual 75, 3) := by decide +kernel
theorem d_Mod_compare_84 : decode b_Mod_compare 84 = .ok (.aload_n 0, 1) := by decide +kernel
theorem d_Mod_compare_85 : decode b_Mod_compare 85 = .ok (.getfield 121, 3) := by decide +kernel
theorem d_Mod_compare_88 : decode b_Mod_compare 88 = .ok (.ireturn, 1) := by decide +kernel
theorem d_Mod_search_0 : decode b_Mod_search 0 = .ok (.aload_n 0, 1) := by decide +kernel
theorem d_Mod_search_1 : decode b_Mod_search 1 = .ok (.iload_n 1, 1) := by decide +kernel
theorem d_Mod_search_2 : decode b_Mod_search 2 = .ok (.iconst 1, 1) := by decide +kernel
theorem d_Mod_search_3 : decode b_Mod_search 3 = .ok (.if_icmp .lt 10, 3) := by decide +kernel
theorem d_Mod_search_6 : decode b_Mod_search 6 = .ok (.iload_n 1, 1) := by decide +kernel
theorem d_Mod_search_7 : decode b_Mod_search 7 = .ok (.sipush 20000, 3) := by decide +kernel
theorem d_Mod_search_10 : decode b_Mod_search 10 = .ok (.if_icmp .le 7, 3) := by decide +kernel
theorem d_Mod_search_13 : decode b_Mod_search 13 = .ok (.iconst 1, 1) := by decide +kernel
theorem d_Mod_search_14 : decode b_Mod_search 14 = .ok (.goto 4, 3) := by decide +kernel
theorem d_Mod_search_17 : decode b_Mod_search 17 = .ok (.iconst 0, 1) := by decide +kernel
theorem d_Mod_search_18 : decode b_Mod_search 18 = .ok (.iconst 0, 1) := by decide +kernel
theorem d_Mod_search_19 : decode b_Mod_search 19 = .ok (.invokevirtual 114, 3) := by decide +kernel
theorem d_Mod_search_22 : decode b_Mod_search 22 = .ok (.ifCond .eq 5, 3) := by decide +kernel
theorem d_Mod_search_25 : decode b_Mod_search 25 = .ok (.iconst 0, 1) := by decide +kernel
theorem d_Mod_search_26 : decode b_Mod_search 26 = .ok (.ireturn, 1) := by decide +kernel
theorem d_Mod_search_27 : decode b_Mod_search 27 = .ok (.aload_n 0, 1) := by decide +kernel
theorem d_Mod_search_28 : decode b_Mod_search 28 = .ok (.getfield 81, 3) := by decide +kernel
theorem d_Mod_search_31 : decode b_Mod_search 31 = .ok (.ifCond .ne 20, 3) := by decide +kernel
theorem d_Mod_search_34 : decode b_Mod_search 34 = .ok (.aload_n 0, 1) := by decide +kernel
theorem d_Mod_search_35 : decode b_Mod_search 35 = .ok (.aload_n 0, 1) := by decide +kernel
theorem d_Mod_search_36 : decode b_Mod_search 36 = .ok (.invokevirtual 103, 3) := by decide +kernel
theorem d_Mod_search_39 : decode b_Mod_search 39 = .ok (.iconst (-1), 1) := by decide +kernel
theorem d_Mod_search_40 : decode b_Mod_search 40 = .ok (.iconst 0, 1) := by decide +kernel
theorem d_Mod_search_41 : decode b_Mod_search 41 = .ok (.invokevirtual 138, 3) := by decide +kernel
theorem d_Mod_search_44 : decode b_Mod_search 44 = .ok (.aload_n 0, 1) := by decide +kernel
theorem d_Mod_search_45 : decode b_Mod_search 45 = .ok (.getfield 53, 3) := by decide +kernel
theorem d_Mod_search_48 : decode b_Mod_search 48 = .ok (.iconst 0, 1) := by decide +kernel
theorem d_Mod_search_49 : decode b_Mod_search 49 = .ok (.iconst 0, 1) := by decide +kernel
theorem d_Mod_search_50 : decode b_Mod_search 50 = .ok (.iastore, 1) := by decide +kernel
theorem d_Mod_search_51 : decode b_Mod_search 51 = .ok (.aload_n 0, 1) := by decide +kernel
theorem d_Mod_search_52 : decode b_Mod_search 52 = .ok (.getfield 91, 3) := by decide +kernel
theorem d_Mod_search_55 : decode b_Mod_search 55 = .ok (.ifCond .ne 32, 3) := by decide +kernel
theorem d_Mod_search_58 : decode b_Mod_search 58 = .ok (.aload_n 0, 1) := by decide +kernel
theorem d_Mod_search_59 : decode b_Mod_search 59 = .ok (.getfield 87, 3) := by decide +kernel
theorem d_Mod_search_62 : decode b_Mod_search 62 = .ok (.ifCond .ne 25, 3) := by decide +kernel
theorem d_Mod_search_65 : decode b_Mod_search 65 = .ok (.aload_n 0, 1) := by decide +kernel
theorem d_Mod_search_66 : decode b_Mod_search 66 = .ok (.getfield 84, 3) := by decide +kernel
theorem d_Mod_search_69 : decode b_Mod_search 69 = .ok (.iload_n 1, 1) := by decide +kernel
theorem d_Mod_search_70 : decode b_Mod_search 70 = .ok (.if_icmp .ge 17, 3) := by decide +kernel
theorem d_Mod_search_73 : decode b_Mod_search 73 = .ok (.aload_n 0, 1) := by decide +kernel
theorem d_Mod_search_74 : decode b_Mod_search 74 = .ok (.invokevirtual 142, 3) := by decide +kernel
theorem d_Mod_search_77 : decode b_Mod_search 77 = .ok (.ifCond .ne (-26), 3) := by decide +kernel
theorem d_Mod_search_80 : decode b_Mod_search 80 = .ok (.aload_n 0, 1) := by decide +kernel
theorem d_Mod_search_81 : decode b_Mod_search 81 = .ok (.invokevirtual 146, 3) := by decide +kernel
theorem d_Mod_search_84 : decode b_Mod_search 84 = .ok (.goto (-33), 3) := by decide +kernel
theorem d_Mod_search_87 : decode b_Mod_search 87 = .ok (.aload_n 0, 1) := by decide +kernel
theorem d_Mod_search_88 : decode b_Mod_search 88 = .ok (.getfield 91, 3) := by decide +kernel
theorem d_Mod_search_91 : decode b_Mod_search 91 = .ok (.ifCond .le 7, 3) := by decide +kernel
theorem d_Mod_search_94 : decode b_Mod_search 94 = .ok (.iconst 0, 1) := by decide +kernel
theorem d_Mod_search_95 : decode b_Mod_search 95 = .ok (.goto 15, 3) := by decide +kernel
theorem d_Mod_search_98 : decode b_Mod_search 98 = .ok (.aload_n 0, 1) := by decide +kernel
theorem d_Mod_search_99 : decode b_Mod_search 99 = .ok (.getfield 87, 3) := by decide +kernel
theorem d_Mod_search_102 : decode b_Mod_search 102 = .ok (.ifCond .eq 7, 3) := by decide +kernel
theorem d_Mod_search_105 : decode b_Mod_search 105 = .ok (.iconst 2, 1) := by decide +kernel
theorem d_Mod_search_106 : decode b_Mod_search 106 = .ok (.goto 4, 3) := by decide +kernel
theorem d_Mod_search_109 : decode b_Mod_search 109 = .ok (.iconst 1, 1) := by decide +kernel
theorem d_Mod_search_110 : decode b_Mod_search 110 = .ok (.ireturn, 1) := by decide +kernel
theorem d_Mod_come_0 : decode b_Mod_come 0 = .ok (.aload_n 0, 1) := by decide +kernel
theorem d_Mod_come_1 : decode b_Mod_come 1 = .ok (.getfield 56, 3) := by decide +kernel
theorem d_Mod_come_4 : decode b_Mod_come 4 = .ok (.iload_n 1, 1) := by decide +kernel
theorem d_Mod_come_5 : decode b_Mod_come 5 = .ok (.baload, 1) := by decide +kernel
theorem d_Mod_come_6 : decode b_Mod_come 6 = .ok (.ifCond .eq 4, 3) := by decide +kernel
theorem d_Mod_come_9 : decode b_Mod_come 9 = .ok (.return_, 1) := by decide +kernel
theorem d_Mod_come_10 : decode b_Mod_come 10 = .ok (.aload_n 0, 1) := by decide +kernel
theorem d_Mod_come_11 : decode b_Mod_come 11 = .ok (.getfield 56, 3) := by decide +kernel
theorem d_Mod_come_14 : decode b_Mod_come 14 = .ok (.iload_n 1, 1) := by decide +kernel
theorem d_Mod_come_15 : decode b_Mod_come 15 = .ok (.iconst 1, 1) := by decide +kernel
theorem d_Mod_come_16 : decode b_Mod_come 16 = .ok (.bastore, 1) := by decide +kernel
theorem d_Mod_come_17 : decode b_Mod_come 17 = .ok (.aload_n 0, 1) := by decide +kernel
theorem d_Mod_come_18 : decode b_Mod_come 18 = .ok (.getfield 44, 3) := by decide +kernel
theorem d_Mod_come_21 : decode b_Mod_come 21 = .ok (.aload_n 0, 1) := by decide +kernel
theorem d_Mod_come_22 : decode b_Mod_come 22 = .ok (.getfield 81, 3) := by decide +kernel
theorem d_Mod_come_25 : decode b_Mod_come 25 = .ok (.iload_n 1, 1) := by decide +kernel
theorem d_Mod_come_26 : decode b_Mod_come 26 = .ok (.iastore, 1) := by decide +kernel
theorem d_Mod_come_27 : decode b_Mod_come 27 = .ok (.aload_n 0, 1) := by decide +kernel
theorem d_Mod_come_28 : decode b_Mod_come 28 = .ok (.getfield 47, 3) := by decide +kernel
theorem d_Mod_come_31 : decode b_Mod_come 31 = .ok (.aload_n 0, 1) := by decide +kernel
theorem d_Mod_come_32 : decode b_Mod_come 32 = .ok (.getfield 81, 3) := by decide +kernel
theorem d_Mod_come_35 : decode b_Mod_come 35 = .ok (.iload_n 2, 1) := by decide +kernel
theorem d_Mod_come_36 : decode b_Mod_come 36 = .ok (.iastore, 1) := by decide +kernel
theorem d_Mod_come_37 : decode b_Mod_come 37 = .ok (.aload_n 0, 1) := by decide +kernel
theorem d_Mod_come_38 : decode b_Mod_come 38 = .ok (.getfield 50, 3) := by decide +kernel
theorem d_Mod_come_41 : decode b_Mod_come 41 = .ok (.aload_n 0, 1) := by decide +kernel
theorem d_Mod_come_42 : decode b_Mod_come 42 = .ok (.getfield 81, 3) := by decide +kernel
theorem d_Mod_come_45 : decode b_Mod_come 45 = .ok (.iload_n 3, 1) := by decide +kernel
theorem d_Mod_come_46 : decode b_Mod_come 46 = .ok (.iastore, 1) := by decide +kernel
theorem d_Mod_come_47 : decode b_Mod_come 47 = .ok (.aload_n 0, 1) := by decide +kernel
theorem d_Mod_come_48 : decode b_Mod_come 48 = .ok (.dup, 1) := by decide +kernel
theorem d_Mod_come_49 : decode b_Mod_come 49 = .ok (.getfield 81, 3) := by decide +kernel
theorem d_Mod_come_52 : decode b_Mod_come 52 = .ok (.iconst 1, 1) := by decide +kernel
theorem d_Mod_come_53 : decode b_Mod_come 53 = .ok (.iadd, 1) := by decide +kernel
theorem d_Mod_come_54 : decode b_Mod_come 54 = .ok (.putfield 81, 3) := by decide +kernel
theorem d_Mod_come_57 : decode b_Mod_come 57 = .ok (.return_, 1) := by decide +kernel
theorem d_Mod_isFound_0 : decode b_Mod_isFound 0 = .ok (.aload_n 0, 1) := by decide +kernel
theorem d_Mod_isFound_1 : decode b_Mod_isFound 1 = .ok (.getfield 53, 3) := by decide +kernel
theorem d_Mod_isFound_4 : decode b_Mod_isFound 4 = .ok (.aload_n 0, 1) := by decide +kernel
theorem d_Mod_isFound_5 : decode b_Mod_isFound 5 = .ok (.getfield 84, 3) := by decide +kernel
theorem d_Mod_isFound_8 : decode b_Mod_isFound 8 = .ok (.iaload, 1) := by decide +kernel
theorem d_Mod_isFound_9 : decode b_Mod_isFound 9 = .ok (.istore_n 1, 1) := by decide +kernel
theorem d_Mod_isFound_10 : decode b_Mod_isFound 10 = .ok (.iload_n 1, 1) := by decide +kernel
theorem d_Mod_isFound_11 : decode b_Mod_isFound 11 = .ok (.aload_n 0, 1) := by decide +kernel
theorem d_Mod_isFound_12 : decode b_Mod_isFound 12 = .ok (.getfield 81, 3) := by decide +kernel
theorem d_Mod_isFound_15 : decode b_Mod_isFound 15 = .ok (.if_icmp .ge 111, 3) := by decide +kernel
theorem d_Mod_isFound_18 : decode b_Mod_isFound 18 = .ok (.iconst 0, 1) := by decide +kernel
theorem d_Mod_isFound_19 : decode b_Mod_isFound 19 = .ok (.istore_n 2, 1) := by decide +kernel
theorem d_Mod_isFound_20 : decode b_Mod_isFound 20 = .ok (.iload_n 2, 1) := by decide +kernel
theorem d_Mod_isFound_21 : decode b_Mod_isFound 21 = .ok (.iconst 1, 1) := by decide +kernel
theorem d_Mod_isFound_22 : decode b_Mod_isFound 22 = .ok (.aload_n 0, 1) := by decide +kernel
theorem d_Mod_isFound_23 : decode b_Mod_isFound 23 = .ok (.getfield 69, 3) := by decide +kernel
theorem d_Mod_isFound_26 : decode b_Mod_isFound 26 = .ok (.ishl, 1) := by decide +kernel
theorem d_Mod_isFound_27 : decode b_Mod_isFound 27 = .ok (.if_icmp .ge 93, 3) := by decide +kernel
theorem d_Mod_isFound_30 : decode b_Mod_isFound 30 = .ok (.aload_n 0, 1) := by decide +kernel
theorem d_Mod_isFound_31 : decode b_Mod_isFound 31 = .ok (.aload_n 0, 1) := by decide +kernel
theorem d_Mod_isFound_32 : decode b_Mod_isFound 32 = .ok (.getfield 44, 3) := by decide +kernel
theorem d_Mod_isFound_35 : decode b_Mod_isFound 35 = .ok (.iload_n 1, 1) := by decide +kernel
theorem d_Mod_isFound_36 : decode b_Mod_isFound 36 = .ok (.iaload, 1) := by decide +kernel
theorem d_Mod_isFound_37 : decode b_Mod_isFound 37 = .ok (.iload_n 2, 1) := by decide +kernel
theorem d_Mod_isFound_38 : decode b_Mod_isFound 38 = .ok (.invokevirtual 128, 3) := by decide +kernel
theorem d_Mod_isFound_41 : decode b_Mod_isFound 41 = .ok (.aload_n 0, 1) := by decide +kernel
theorem d_Mod_isFound_42 : decode b_Mod_isFound 42 = .ok (.invokevirtual 132, 3) := by decide +kernel
theorem d_Mod_isFound_45 : decode b_Mod_isFound 45 = .ok (.ifCond .ge 6, 3) := by decide +kernel
theorem d_Mod_isFound_48 : decode b_Mod_isFound 48 = .ok (.goto 66, 3) := by decide +kernel
theorem d_Mod_isFound_51 : decode b_Mod_isFound 51 = .ok (.aload_n 0, 1) := by decide +kernel
theorem d_Mod_isFound_52 : decode b_Mod_isFound 52 = .ok (.aload_n 0, 1) := by decide +kernel
theorem d_Mod_isFound_53 : decode b_Mod_isFound 53 = .ok (.getfield 84, 3) := by decide +kernel
theorem d_Mod_isFound_56 : decode b_Mod_isFound 56 = .ok (.iconst 1, 1) := by decide +kernel
theorem d_Mod_isFound_57 : decode b_Mod_isFound 57 = .ok (.iadd, 1) := by decide +kernel
theorem d_Mod_isFound_58 : decode b_Mod_isFound 58 = .ok (.putfield 91, 3) := by decide +kernel
theorem d_Mod_isFound_61 : decode b_Mod_isFound 61 = .ok (.aload_n 0, 1) := by decide +kernel
theorem d_Mod_isFound_62 : decode b_Mod_isFound 62 = .ok (.getfield 59, 3) := by decide +kernel
theorem d_Mod_isFound_65 : decode b_Mod_isFound 65 = .ok (.aload_n 0, 1) := by decide +kernel
theorem d_Mod_isFound_66 : decode b_Mod_isFound 66 = .ok (.getfield 84, 3) := by decide +kernel
theorem d_Mod_isFound_69 : decode b_Mod_isFound 69 = .ok (.iload_n 2, 1) := by decide +kernel
theorem d_Mod_isFound_70 : decode b_Mod_isFound 70 = .ok (.iastore, 1) := by decide +kernel
theorem d_Mod_isFound_71 : decode b_Mod_isFound 71 = .ok (.iload_n 1, 1) := by decide +kernel
theorem d_Mod_isFound_72 : decode b_Mod_isFound 72 = .ok (.istore_n 3, 1) := by decide +kernel
theorem d_Mod_isFound_73 : decode b_Mod_isFound 73 = .ok (.aload_n 0, 1) := by decide +kernel
theorem d_Mod_isFound_74 : decode b_Mod_isFound 74 = .ok (.getfield 84, 3) := by decide +kernel
theorem d_Mod_isFound_77 : decode b_Mod_isFound 77 = .ok (.iconst 1, 1) := by decide +kernel
theorem d_Mod_isFound_78 : decode b_Mod_isFound 78 = .ok (.isub, 1) := by decide +kernel
theorem d_Mod_isFound_79 : decode b_Mod_isFound 79 = .ok (.istore 4, 2) := by decide +kernel
theorem d_Mod_isFound_81 : decode b_Mod_isFound 81 = .ok (.iload 4, 2) := by decide +kernel
theorem d_Mod_isFound_83 : decode b_Mod_isFound 83 = .ok (.ifCond .lt 29, 3) := by decide +kernel
theorem d_Mod_isFound_86 : decode b_Mod_isFound 86 = .ok (.aload_n 0, 1) := by decide +kernel
theorem d_Mod_isFound_87 : decode b_Mod_isFound 87 = .ok (.getfield 59, 3) := by decide +kernel
theorem d_Mod_isFound_90 : decode b_Mod_isFound 90 = .ok (.iload 4, 2) := by decide +kernel
theorem d_Mod_isFound_92 : decode b_Mod_isFound 92 = .ok (.aload_n 0, 1) := by decide +kernel
theorem d_Mod_isFound_93 : decode b_Mod_isFound 93 = .ok (.getfield 50, 3) := by decide +kernel
theorem d_Mod_isFound_96 : decode b_Mod_isFound 96 = .ok (.iload_n 3, 1) := by decide +kernel
theorem d_Mod_isFound_97 : decode b_Mod_isFound 97 = .ok (.iaload, 1) := by decide +kernel
theorem d_Mod_isFound_98 : decode b_Mod_isFound 98 = .ok (.iastore, 1) := by decide +kernel
theorem d_Mod_isFound_99 : decode b_Mod_isFound 99 = .ok (.aload_n 0, 1) := by decide +kernel
theorem d_Mod_isFound_100 : decode b_Mod_isFound 100 = .ok (.getfield 47, 3) := by decide +kernel
theorem d_Mod_isFound_103 : decode b_Mod_isFound 103 = .ok (.iload_n 3, 1) := by decide +kernel
theorem d_Mod_isFound_104 : decode b_Mod_isFound 104 = .ok (.iaload, 1) := by decide +kernel
theorem d_Mod_isFound_105 : decode b_Mod_isFound 105 = .ok (.istore_n 3, 1) := by decide +kernel
theorem d_Mod_isFound_106 : decode b_Mod_isFound 106 = .ok (.iinc 4 (-1), 3) := by decide +kernel
theorem d_Mod_isFound_109 : decode b_Mod_isFound 109 = .ok (.goto (-28), 3) := by decide +kernel
theorem d_Mod_isFound_112 : decode b_Mod_isFound 112 = .ok (.iconst 1, 1) := by decide +kernel
theorem d_Mod_isFound_113 : decode b_Mod_isFound 113 = .ok (.ireturn, 1) := by decide +kernel
theorem d_Mod_isFound_114 : decode b_Mod_isFound 114 = .ok (.iinc 2 1, 3) := by decide +kernel
theorem d_Mod_isFound_117 : decode b_Mod_isFound 117 = .ok (.goto (-97), 3) := by decide +kernel
theorem d_Mod_isFound_120 : decode b_Mod_isFound 120 = .ok (.iinc 1 1, 3) := by decide +kernel
theorem d_Mod_isFound_123 : decode b_Mod_isFound 123 = .ok (.goto (-113), 3) := by decide +kernel
theorem d_Mod_isFound_126 : decode b_Mod_isFound 126 = .ok (.iconst 0, 1) := by decide +kernel
theorem d_Mod_isFound_127 : decode b_Mod_isFound 127 = .ok (.ireturn, 1) := by decide +kernel
theorem d_Mod_work_0 : decode b_Mod_work 0 = .ok (.iconst 0, 1) := by decide +kernel
theorem d_Mod_work_1 : decode b_Mod_work 1 = .ok (.istore_n 3, 1) := by decide +kernel
theorem d_Mod_work_2 : decode b_Mod_work 2 = .ok (.iload_n 3, 1) := by decide +kernel
theorem d_Mod_work_3 : decode b_Mod_work 3 = .ok (.aload_n 0, 1) := by decide +kernel
theorem d_Mod_work_4 : decode b_Mod_work 4 = .ok (.getfield 72, 3) := by decide +kernel
theorem d_Mod_work_7 : decode b_Mod_work 7 = .ok (.if_icmp .ge 80, 3) := by decide +kernel
theorem d_Mod_work_10 : decode b_Mod_work 10 = .ok (.aload_n 0, 1) := by decide +kernel
theorem d_Mod_work_11 : decode b_Mod_work 11 = .ok (.getfield 41, 3) := by decide +kernel
theorem d_Mod_work_14 : decode b_Mod_work 14 = .ok (.iload_n 3, 1) := by decide +kernel
theorem d_Mod_work_15 : decode b_Mod_work 15 = .ok (.aload_n 0, 1) := by decide +kernel
theorem d_Mod_work_16 : decode b_Mod_work 16 = .ok (.getfield 13, 3) := by decide +kernel
theorem d_Mod_work_19 : decode b_Mod_work 19 = .ok (.iload_n 3, 1) := by decide +kernel
theorem d_Mod_work_20 : decode b_Mod_work 20 = .ok (.iaload, 1) := by decide +kernel
theorem d_Mod_work_21 : decode b_Mod_work 21 = .ok (.iconst (-1), 1) := by decide +kernel
theorem d_Mod_work_22 : decode b_Mod_work 22 = .ok (.if_icmp .ne 20, 3) := by decide +kernel
theorem d_Mod_work_25 : decode b_Mod_work 25 = .ok (.iload_n 2, 1) := by decide +kernel
theorem d_Mod_work_26 : decode b_Mod_work 26 = .ok (.iload_n 3, 1) := by decide +kernel
theorem d_Mod_work_27 : decode b_Mod_work 27 = .ok (.ishr, 1) := by decide +kernel
theorem d_Mod_work_28 : decode b_Mod_work 28 = .ok (.iconst 1, 1) := by decide +kernel
theorem d_Mod_work_29 : decode b_Mod_work 29 = .ok (.iand, 1) := by decide +kernel
theorem d_Mod_work_30 : decode b_Mod_work 30 = .ok (.iconst 1, 1) := by decide +kernel
theorem d_Mod_work_31 : decode b_Mod_work 31 = .ok (.if_icmp .ne 7, 3) := by decide +kernel
theorem d_Mod_work_34 : decode b_Mod_work 34 = .ok (.iconst 1, 1) := by decide +kernel
theorem d_Mod_work_35 : decode b_Mod_work 35 = .ok (.goto 45, 3) := by decide +kernel
theorem d_Mod_work_38 : decode b_Mod_work 38 = .ok (.iconst 0, 1) := by decide +kernel
theorem d_Mod_work_39 : decode b_Mod_work 39 = .ok (.goto 41, 3) := by decide +kernel
theorem d_Mod_work_42 : decode b_Mod_work 42 = .ok (.aload_n 0, 1) := by decide +kernel
theorem d_Mod_work_43 : decode b_Mod_work 43 = .ok (.getfield 13, 3) := by decide +kernel
theorem d_Mod_work_46 : decode b_Mod_work 46 = .ok (.iload_n 3, 1) := by decide +kernel
theorem d_Mod_work_47 : decode b_Mod_work 47 = .ok (.iaload, 1) := by decide +kernel
theorem d_Mod_work_48 : decode b_Mod_work 48 = .ok (.bipush (-2), 2) := by decide +kernel
theorem d_Mod_work_50 : decode b_Mod_work 50 = .ok (.if_icmp .ne 25, 3) := by decide +kernel
theorem d_Mod_work_53 : decode b_Mod_work 53 = .ok (.iload_n 1, 1) := by decide +kernel
theorem d_Mod_work_54 : decode b_Mod_work 54 = .ok (.aload_n 0, 1) := by decide +kernel
theorem d_Mod_work_55 : decode b_Mod_work 55 = .ok (.getfield 22, 3) := by decide +kernel
theorem d_Mod_work_58 : decode b_Mod_work 58 = .ok (.iload_n 3, 1) := by decide +kernel
theorem d_Mod_work_59 : decode b_Mod_work 59 = .ok (.iaload, 1) := by decide +kernel
theorem d_Mod_work_60 : decode b_Mod_work 60 = .ok (.ishr, 1) := by decide +kernel
theorem d_Mod_work_61 : decode b_Mod_work 61 = .ok (.iconst 1, 1) := by decide +kernel
theorem d_Mod_work_62 : decode b_Mod_work 62 = .ok (.iand, 1) := by decide +kernel
theorem d_Mod_work_63 : decode b_Mod_work 63 = .ok (.iconst 1, 1) := by decide +kernel
theorem d_Mod_work_64 : decode b_Mod_work 64 = .ok (.if_icmp .ne 7, 3) := by decide +kernel
theorem d_Mod_work_67 : decode b_Mod_work 67 = .ok (.iconst 1, 1) := by decide +kernel
theorem d_Mod_work_68 : decode b_Mod_work 68 = .ok (.goto 12, 3) := by decide +kernel
theorem d_Mod_work_71 : decode b_Mod_work 71 = .ok (.iconst 0, 1) := by decide +kernel
theorem d_Mod_work_72 : decode b_Mod_work 72 = .ok (.goto 8, 3) := by decide +kernel
theorem d_Mod_work_75 : decode b_Mod_work 75 = .ok (.aload_n 0, 1) := by decide +kernel
theorem d_Mod_work_76 : decode b_Mod_work 76 = .ok (.iload_n 3, 1) := by decide +kernel
theorem d_Mod_work_77 : decode b_Mod_work 77 = .ok (.invokevirtual 124, 3) := by decide +kernel
theorem d_Mod_work_80 : decode b_Mod_work 80 = .ok (.bastore, 1) := by decide +kernel
theorem d_Mod_work_81 : decode b_Mod_work 81 = .ok (.iinc 3 1, 3) := by decide +kernel
theorem d_Mod_work_84 : decode b_Mod_work 84 = .ok (.goto (-82), 3) := by decide +kernel
theorem d_Mod_work_87 : decode b_Mod_work 87 = .ok (.return_, 1) := by decide +kernel
theorem d_Mod_made_0 : decode b_Mod_made 0 = .ok (.aload_n 0, 1) := by decide +kernel
theorem d_Mod_made_1 : decode b_Mod_made 1 = .ok (.getfield 41, 3) := by decide +kernel
theorem d_Mod_made_4 : decode b_Mod_made 4 = .ok (.aload_n 0, 1) := by decide +kernel
theorem d_Mod_made_5 : decode b_Mod_made 5 = .ok (.getfield 16, 3) := by decide +kernel
theorem d_Mod_made_8 : decode b_Mod_made 8 = .ok (.iload_n 1, 1) := by decide +kernel
theorem d_Mod_made_9 : decode b_Mod_made 9 = .ok (.iaload, 1) := by decide +kernel
theorem d_Mod_made_10 : decode b_Mod_made 10 = .ok (.baload, 1) := by decide +kernel
theorem d_Mod_made_11 : decode b_Mod_made 11 = .ok (.istore_n 2, 1) := by decide +kernel
theorem d_Mod_made_12 : decode b_Mod_made 12 = .ok (.aload_n 0, 1) := by decide +kernel
theorem d_Mod_made_13 : decode b_Mod_made 13 = .ok (.getfield 41, 3) := by decide +kernel
theorem d_Mod_made_16 : decode b_Mod_made 16 = .ok (.aload_n 0, 1) := by decide +kernel
theorem d_Mod_made_17 : decode b_Mod_made 17 = .ok (.getfield 19, 3) := by decide +kernel
theorem d_Mod_made_20 : decode b_Mod_made 20 = .ok (.iload_n 1, 1) := by decide +kernel
theorem d_Mod_made_21 : decode b_Mod_made 21 = .ok (.iaload, 1) := by decide +kernel
theorem d_Mod_made_22 : decode b_Mod_made 22 = .ok (.baload, 1) := by decide +kernel
theorem d_Mod_made_23 : decode b_Mod_made 23 = .ok (.istore_n 3, 1) := by decide +kernel
theorem d_Mod_made_24 : decode b_Mod_made 24 = .ok (.aload_n 0, 1) := by decide +kernel
theorem d_Mod_made_25 : decode b_Mod_made 25 = .ok (.getfield 13, 3) := by decide +kernel
theorem d_Mod_made_28 : decode b_Mod_made 28 = .ok (.iload_n 1, 1) := by decide +kernel
theorem d_Mod_made_29 : decode b_Mod_made 29 = .ok (.iaload, 1) := by decide +kernel
theorem d_Mod_made_30 : decode b_Mod_made 30 = .ok (.tableswitch 79 0 3 #[30, 44, 58, 69], 30) := by decide +kernel
theorem d_Mod_made_60 : decode b_Mod_made 60 = .ok (.iload_n 2, 1) := by decide +kernel
theorem d_Mod_made_61 : decode b_Mod_made 61 = .ok (.ifCond .eq 11, 3) := by decide +kernel
theorem d_Mod_made_64 : decode b_Mod_made 64 = .ok (.iload_n 3, 1) := by decide +kernel
theorem d_Mod_made_65 : decode b_Mod_made 65 = .ok (.ifCond .eq 7, 3) := by decide +kernel
theorem d_Mod_made_68 : decode b_Mod_made 68 = .ok (.iconst 1, 1) := by decide +kernel
theorem d_Mod_made_69 : decode b_Mod_made 69 = .ok (.goto 4, 3) := by decide +kernel
theorem d_Mod_made_72 : decode b_Mod_made 72 = .ok (.iconst 0, 1) := by decide +kernel
theorem d_Mod_made_73 : decode b_Mod_made 73 = .ok (.ireturn, 1) := by decide +kernel
theorem d_Mod_made_74 : decode b_Mod_made 74 = .ok (.iload_n 2, 1) := by decide +kernel
theorem d_Mod_made_75 : decode b_Mod_made 75 = .ok (.ifCond .ne 7, 3) := by decide +kernel
theorem d_Mod_made_78 : decode b_Mod_made 78 = .ok (.iload_n 3, 1) := by decide +kernel
theorem d_Mod_made_79 : decode b_Mod_made 79 = .ok (.ifCond .eq 7, 3) := by decide +kernel
theorem d_Mod_made_82 : decode b_Mod_made 82 = .ok (.iconst 1, 1) := by decide +kernel
theorem d_Mod_made_83 : decode b_Mod_made 83 = .ok (.goto 4, 3) := by decide +kernel
theorem d_Mod_made_86 : decode b_Mod_made 86 = .ok (.iconst 0, 1) := by decide +kernel
theorem d_Mod_made_87 : decode b_Mod_made 87 = .ok (.ireturn, 1) := by decide +kernel
theorem d_Mod_made_88 : decode b_Mod_made 88 = .ok (.iload_n 2, 1) := by decide +kernel
theorem d_Mod_made_89 : decode b_Mod_made 89 = .ok (.iload_n 3, 1) := by decide +kernel
theorem d_Mod_made_90 : decode b_Mod_made 90 = .ok (.if_icmp .eq 7, 3) := by decide +kernel
theorem d_Mod_made_93 : decode b_Mod_made 93 = .ok (.iconst 1, 1) := by decide +kernel
theorem d_Mod_made_94 : decode b_Mod_made 94 = .ok (.goto 4, 3) := by decide +kernel
theorem d_Mod_made_97 : decode b_Mod_made 97 = .ok (.iconst 0, 1) := by decide +kernel
theorem d_Mod_made_98 : decode b_Mod_made 98 = .ok (.ireturn, 1) := by decide +kernel
theorem d_Mod_made_99 : decode b_Mod_made 99 = .ok (.iload_n 2, 1) := by decide +kernel
theorem d_Mod_made_100 : decode b_Mod_made 100 = .ok (.ifCond .ne 7, 3) := by decide +kernel
theorem d_Mod_made_103 : decode b_Mod_made 103 = .ok (.iconst 1, 1) := by decide +kernel
theorem d_Mod_made_104 : decode b_Mod_made 104 = .ok (.goto 4, 3) := by decide +kernel
theorem d_Mod_made_107 : decode b_Mod_made 107 = .ok (.iconst 0, 1) := by decide +kernel
theorem d_Mod_made_108 : decode b_Mod_made 108 = .ok (.ireturn, 1) := by decide +kernel
theorem d_Mod_made_109 : decode b_Mod_made 109 = .ok (.aload_n 0, 1) := by decide +kernel
theorem d_Mod_made_110 : decode b_Mod_made 110 = .ok (.getfield 13, 3) := by decide +kernel
theorem d_Mod_made_113 : decode b_Mod_made 113 = .ok (.iload_n 1, 1) := by decide +kernel
theorem d_Mod_made_114 : decode b_Mod_made 114 = .ok (.iaload, 1) := by decide +kernel
theorem d_Mod_made_115 : decode b_Mod_made 115 = .ok (.iconst 5, 1) := by decide +kernel
theorem d_Mod_made_116 : decode b_Mod_made 116 = .ok (.if_icmp .ne 7, 3) := by decide +kernel
theorem d_Mod_made_119 : decode b_Mod_made 119 = .ok (.iconst 1, 1) := by decide +kernel
theorem d_Mod_made_120 : decode b_Mod_made 120 = .ok (.goto 4, 3) := by decide +kernel
theorem d_Mod_made_123 : decode b_Mod_made 123 = .ok (.iconst 0, 1) := by decide +kernel
theorem d_Mod_made_124 : decode b_Mod_made 124 = .ok (.ireturn, 1) := by decide +kernel
theorem d_Mod_difference_0 : decode b_Mod_difference 0 = .ok (.iconst 0, 1) := by decide +kernel
theorem d_Mod_difference_1 : decode b_Mod_difference 1 = .ok (.istore_n 1, 1) := by decide +kernel
theorem d_Mod_difference_2 : decode b_Mod_difference 2 = .ok (.iload_n 1, 1) := by decide +kernel
theorem d_Mod_difference_3 : decode b_Mod_difference 3 = .ok (.aload_n 0, 1) := by decide +kernel
theorem d_Mod_difference_4 : decode b_Mod_difference 4 = .ok (.getfield 121, 3) := by decide +kernel
theorem d_Mod_difference_7 : decode b_Mod_difference 7 = .ok (.if_icmp .ge 36, 3) := by decide +kernel
theorem d_Mod_difference_10 : decode b_Mod_difference 10 = .ok (.aload_n 0, 1) := by decide +kernel
theorem d_Mod_difference_11 : decode b_Mod_difference 11 = .ok (.getfield 41, 3) := by decide +kernel
theorem d_Mod_difference_14 : decode b_Mod_difference 14 = .ok (.aload_n 0, 1) := by decide +kernel
theorem d_Mod_difference_15 : decode b_Mod_difference 15 = .ok (.getfield 35, 3) := by decide +kernel
theorem d_Mod_difference_18 : decode b_Mod_difference 18 = .ok (.iload_n 1, 1) := by decide +kernel
theorem d_Mod_difference_19 : decode b_Mod_difference 19 = .ok (.iaload, 1) := by decide +kernel
theorem d_Mod_difference_20 : decode b_Mod_difference 20 = .ok (.baload, 1) := by decide +kernel
theorem d_Mod_difference_21 : decode b_Mod_difference 21 = .ok (.aload_n 0, 1) := by decide +kernel
theorem d_Mod_difference_22 : decode b_Mod_difference 22 = .ok (.getfield 41, 3) := by decide +kernel
theorem d_Mod_difference_25 : decode b_Mod_difference 25 = .ok (.aload_n 0, 1) := by decide +kernel
theorem d_Mod_difference_26 : decode b_Mod_difference 26 = .ok (.getfield 38, 3) := by decide +kernel
theorem d_Mod_difference_29 : decode b_Mod_difference 29 = .ok (.iload_n 1, 1) := by decide +kernel
theorem d_Mod_difference_30 : decode b_Mod_difference 30 = .ok (.iaload, 1) := by decide +kernel
theorem d_Mod_difference_31 : decode b_Mod_difference 31 = .ok (.baload, 1) := by decide +kernel
theorem d_Mod_difference_32 : decode b_Mod_difference 32 = .ok (.if_icmp .eq 5, 3) := by decide +kernel
theorem d_Mod_difference_35 : decode b_Mod_difference 35 = .ok (.iload_n 1, 1) := by decide +kernel
theorem d_Mod_difference_36 : decode b_Mod_difference 36 = .ok (.ireturn, 1) := by decide +kernel
theorem d_Mod_difference_37 : decode b_Mod_difference 37 = .ok (.iinc 1 1, 3) := by decide +kernel
theorem d_Mod_difference_40 : decode b_Mod_difference 40 = .ok (.goto (-38), 3) := by decide +kernel
theorem d_Mod_difference_43 : decode b_Mod_difference 43 = .ok (.iconst (-1), 1) := by decide +kernel
theorem d_Mod_difference_44 : decode b_Mod_difference 44 = .ok (.ireturn, 1) := by decide +kernel
theorem d_Mod_goThrough_0 : decode b_Mod_goThrough 0 = .ok (.aload_n 0, 1) := by decide +kernel
theorem d_Mod_goThrough_1 : decode b_Mod_goThrough 1 = .ok (.getfield 81, 3) := by decide +kernel
theorem d_Mod_goThrough_4 : decode b_Mod_goThrough 4 = .ok (.istore_n 1, 1) := by decide +kernel
theorem d_Mod_goThrough_5 : decode b_Mod_goThrough 5 = .ok (.aload_n 0, 1) := by decide +kernel
theorem d_Mod_goThrough_6 : decode b_Mod_goThrough 6 = .ok (.getfield 53, 3) := by decide +kernel
theorem d_Mod_goThrough_9 : decode b_Mod_goThrough 9 = .ok (.aload_n 0, 1) := by decide +kernel
theorem d_Mod_goThrough_10 : decode b_Mod_goThrough 10 = .ok (.getfield 84, 3) := by decide +kernel
theorem d_Mod_goThrough_13 : decode b_Mod_goThrough 13 = .ok (.iaload, 1) := by decide +kernel
theorem d_Mod_goThrough_14 : decode b_Mod_goThrough 14 = .ok (.istore_n 2, 1) := by decide +kernel
theorem d_Mod_goThrough_15 : decode b_Mod_goThrough 15 = .ok (.iload_n 2, 1) := by decide +kernel
theorem d_Mod_goThrough_16 : decode b_Mod_goThrough 16 = .ok (.iload_n 1, 1) := by decide +kernel
theorem d_Mod_goThrough_17 : decode b_Mod_goThrough 17 = .ok (.if_icmp .ge 48, 3) := by decide +kernel
theorem d_Mod_goThrough_20 : decode b_Mod_goThrough 20 = .ok (.iconst 0, 1) := by decide +kernel
theorem d_Mod_goThrough_21 : decode b_Mod_goThrough 21 = .ok (.istore_n 3, 1) := by decide +kernel
theorem d_Mod_goThrough_22 : decode b_Mod_goThrough 22 = .ok (.iload_n 3, 1) := by decide +kernel
theorem d_Mod_goThrough_23 : decode b_Mod_goThrough 23 = .ok (.iconst 1, 1) := by decide +kernel
theorem d_Mod_goThrough_24 : decode b_Mod_goThrough 24 = .ok (.aload_n 0, 1) := by decide +kernel
theorem d_Mod_goThrough_25 : decode b_Mod_goThrough 25 = .ok (.getfield 69, 3) := by decide +kernel
theorem d_Mod_goThrough_28 : decode b_Mod_goThrough 28 = .ok (.ishl, 1) := by decide +kernel
theorem d_Mod_goThrough_29 : decode b_Mod_goThrough 29 = .ok (.if_icmp .ge 30, 3) := by decide +kernel
theorem d_Mod_goThrough_32 : decode b_Mod_goThrough 32 = .ok (.aload_n 0, 1) := by decide +kernel
theorem d_Mod_goThrough_33 : decode b_Mod_goThrough 33 = .ok (.aload_n 0, 1) := by decide +kernel
theorem d_Mod_goThrough_34 : decode b_Mod_goThrough 34 = .ok (.getfield 44, 3) := by decide +kernel
theorem d_Mod_goThrough_37 : decode b_Mod_goThrough 37 = .ok (.iload_n 2, 1) := by decide +kernel
theorem d_Mod_goThrough_38 : decode b_Mod_goThrough 38 = .ok (.iaload, 1) := by decide +kernel
theorem d_Mod_goThrough_39 : decode b_Mod_goThrough 39 = .ok (.iload_n 3, 1) := by decide +kernel
theorem d_Mod_goThrough_40 : decode b_Mod_goThrough 40 = .ok (.invokevirtual 128, 3) := by decide +kernel
theorem d_Mod_goThrough_43 : decode b_Mod_goThrough 43 = .ok (.aload_n 0, 1) := by decide +kernel
theorem d_Mod_goThrough_44 : decode b_Mod_goThrough 44 = .ok (.aload_n 0, 1) := by decide +kernel
theorem d_Mod_goThrough_45 : decode b_Mod_goThrough 45 = .ok (.invokevirtual 135, 3) := by decide +kernel
theorem d_Mod_goThrough_48 : decode b_Mod_goThrough 48 = .ok (.iload_n 2, 1) := by decide +kernel
theorem d_Mod_goThrough_49 : decode b_Mod_goThrough 49 = .ok (.iload_n 3, 1) := by decide +kernel
theorem d_Mod_goThrough_50 : decode b_Mod_goThrough 50 = .ok (.invokevirtual 138, 3) := by decide +kernel
theorem d_Mod_goThrough_53 : decode b_Mod_goThrough 53 = .ok (.iinc 3 1, 3) := by decide +kernel
theorem d_Mod_goThrough_56 : decode b_Mod_goThrough 56 = .ok (.goto (-34), 3) := by decide +kernel
theorem d_Mod_goThrough_59 : decode b_Mod_goThrough 59 = .ok (.iinc 2 1, 3) := by decide +kernel
theorem d_Mod_goThrough_62 : decode b_Mod_goThrough 62 = .ok (.goto (-47), 3) := by decide +kernel
theorem d_Mod_goThrough_65 : decode b_Mod_goThrough 65 = .ok (.aload_n 0, 1) := by decide +kernel
theorem d_Mod_goThrough_66 : decode b_Mod_goThrough 66 = .ok (.dup, 1) := by decide +kernel
theorem d_Mod_goThrough_67 : decode b_Mod_goThrough 67 = .ok (.getfield 84, 3) := by decide +kernel
theorem d_Mod_goThrough_70 : decode b_Mod_goThrough 70 = .ok (.iconst 1, 1) := by decide +kernel
theorem d_Mod_goThrough_71 : decode b_Mod_goThrough 71 = .ok (.iadd, 1) := by decide +kernel
theorem d_Mod_goThrough_72 : decode b_Mod_goThrough 72 = .ok (.putfield 84, 3) := by decide +kernel
theorem d_Mod_goThrough_75 : decode b_Mod_goThrough 75 = .ok (.aload_n 0, 1) := by decide +kernel
theorem d_Mod_goThrough_76 : decode b_Mod_goThrough 76 = .ok (.getfield 53, 3) := by decide +kernel
theorem d_Mod_goThrough_79 : decode b_Mod_goThrough 79 = .ok (.aload_n 0, 1) := by decide +kernel
theorem d_Mod_goThrough_80 : decode b_Mod_goThrough 80 = .ok (.getfield 84, 3) := by decide +kernel
theorem d_Mod_goThrough_83 : decode b_Mod_goThrough 83 = .ok (.iload_n 1, 1) := by decide +kernel
theorem d_Mod_goThrough_84 : decode b_Mod_goThrough 84 = .ok (.iastore, 1) := by decide +kernel
theorem d_Mod_goThrough_85 : decode b_Mod_goThrough 85 = .ok (.aload_n 0, 1) := by decide +kernel
theorem d_Mod_goThrough_86 : decode b_Mod_goThrough 86 = .ok (.aload_n 0, 1) := by decide +kernel
theorem d_Mod_goThrough_87 : decode b_Mod_goThrough 87 = .ok (.getfield 81, 3) := by decide +kernel
theorem d_Mod_goThrough_90 : decode b_Mod_goThrough 90 = .ok (.iload_n 1, 1) := by decide +kernel
theorem d_Mod_goThrough_91 : decode b_Mod_goThrough 91 = .ok (.if_icmp .ne 7, 3) := by decide +kernel
theorem d_Mod_goThrough_94 : decode b_Mod_goThrough 94 = .ok (.iconst 1, 1) := by decide +kernel
theorem d_Mod_goThrough_95 : decode b_Mod_goThrough 95 = .ok (.goto 4, 3) := by decide +kernel
theorem d_Mod_goThrough_98 : decode b_Mod_goThrough 98 = .ok (.iconst 0, 1) := by decide +kernel
theorem d_Mod_goThrough_99 : decode b_Mod_goThrough 99 = .ok (.putfield 87, 3) := by decide +kernel
theorem d_Mod_goThrough_102 : decode b_Mod_goThrough 102 = .ok (.return_, 1) := by decide +kernel
theorem d_Mod_after_0 : decode b_Mod_after 0 = .ok (.iconst 0, 1) := by decide +kernel
theorem d_Mod_after_1 : decode b_Mod_after 1 = .ok (.istore_n 1, 1) := by decide +kernel
theorem d_Mod_after_2 : decode b_Mod_after 2 = .ok (.iconst 0, 1) := by decide +kernel
theorem d_Mod_after_3 : decode b_Mod_after 3 = .ok (.istore_n 2, 1) := by decide +kernel
theorem d_Mod_after_4 : decode b_Mod_after 4 = .ok (.iload_n 2, 1) := by decide +kernel
theorem d_Mod_after_5 : decode b_Mod_after 5 = .ok (.aload_n 0, 1) := by decide +kernel
theorem d_Mod_after_6 : decode b_Mod_after 6 = .ok (.getfield 97, 3) := by decide +kernel
theorem d_Mod_after_9 : decode b_Mod_after 9 = .ok (.if_icmp .ge 33, 3) := by decide +kernel
theorem d_Mod_after_12 : decode b_Mod_after 12 = .ok (.iload_n 1, 1) := by decide +kernel
theorem d_Mod_after_13 : decode b_Mod_after 13 = .ok (.aload_n 0, 1) := by decide +kernel
theorem d_Mod_after_14 : decode b_Mod_after 14 = .ok (.getfield 41, 3) := by decide +kernel
theorem d_Mod_after_17 : decode b_Mod_after 17 = .ok (.aload_n 0, 1) := by decide +kernel
theorem d_Mod_after_18 : decode b_Mod_after 18 = .ok (.getfield 28, 3) := by decide +kernel
theorem d_Mod_after_21 : decode b_Mod_after 21 = .ok (.iload_n 2, 1) := by decide +kernel
theorem d_Mod_after_22 : decode b_Mod_after 22 = .ok (.iaload, 1) := by decide +kernel
theorem d_Mod_after_23 : decode b_Mod_after 23 = .ok (.baload, 1) := by decide +kernel
theorem d_Mod_after_24 : decode b_Mod_after 24 = .ok (.ifCond .eq 9, 3) := by decide +kernel
theorem d_Mod_after_27 : decode b_Mod_after 27 = .ok (.iconst 1, 1) := by decide +kernel
theorem d_Mod_after_28 : decode b_Mod_after 28 = .ok (.iload_n 2, 1) := by decide +kernel
theorem d_Mod_after_29 : decode b_Mod_after 29 = .ok (.ishl, 1) := by decide +kernel
theorem d_Mod_after_30 : decode b_Mod_after 30 = .ok (.goto 4, 3) := by decide +kernel
theorem d_Mod_after_33 : decode b_Mod_after 33 = .ok (.iconst 0, 1) := by decide +kernel
theorem d_Mod_after_34 : decode b_Mod_after 34 = .ok (.ior, 1) := by decide +kernel
theorem d_Mod_after_35 : decode b_Mod_after 35 = .ok (.istore_n 1, 1) := by decide +kernel
theorem d_Mod_after_36 : decode b_Mod_after 36 = .ok (.iinc 2 1, 3) := by decide +kernel
theorem d_Mod_after_39 : decode b_Mod_after 39 = .ok (.goto (-35), 3) := by decide +kernel
theorem d_Mod_after_42 : decode b_Mod_after 42 = .ok (.iload_n 1, 1) := by decide +kernel
theorem d_Mod_after_43 : decode b_Mod_after 43 = .ok (.ireturn, 1) := by decide +kernel
theorem d_Mod_length_0 : decode b_Mod_length 0 = .ok (.aload_n 0, 1) := by decide +kernel
theorem d_Mod_length_1 : decode b_Mod_length 1 = .ok (.iconst 0, 1) := by decide +kernel
theorem d_Mod_length_2 : decode b_Mod_length 2 = .ok (.putfield 78, 3) := by decide +kernel
theorem d_Mod_length_5 : decode b_Mod_length 5 = .ok (.aload_n 0, 1) := by decide +kernel
theorem d_Mod_length_6 : decode b_Mod_length 6 = .ok (.getfield 91, 3) := by decide +kernel
theorem d_Mod_length_9 : decode b_Mod_length 9 = .ok (.ifCond .le 10, 3) := by decide +kernel
theorem d_Mod_length_12 : decode b_Mod_length 12 = .ok (.aload_n 0, 1) := by decide +kernel
theorem d_Mod_length_13 : decode b_Mod_length 13 = .ok (.getfield 91, 3) := by decide +kernel
theorem d_Mod_length_16 : decode b_Mod_length 16 = .ok (.goto 4, 3) := by decide +kernel
theorem d_Mod_length_19 : decode b_Mod_length 19 = .ok (.iconst (-1), 1) := by decide +kernel
theorem d_Mod_length_20 : decode b_Mod_length 20 = .ok (.ireturn, 1) := by decide +kernel
theorem d_Mod_word_0 : decode b_Mod_word 0 = .ok (.aload_n 0, 1) := by decide +kernel
theorem d_Mod_word_1 : decode b_Mod_word 1 = .ok (.iload_n 1, 1) := by decide +kernel
theorem d_Mod_word_2 : decode b_Mod_word 2 = .ok (.aload_n 0, 1) := by decide +kernel
theorem d_Mod_word_3 : decode b_Mod_word 3 = .ok (.getfield 91, 3) := by decide +kernel
theorem d_Mod_word_6 : decode b_Mod_word 6 = .ok (.invokestatic 110, 3) := by decide +kernel
theorem d_Mod_word_9 : decode b_Mod_word 9 = .ok (.ifCond .ne 7, 3) := by decide +kernel
theorem d_Mod_word_12 : decode b_Mod_word 12 = .ok (.iconst 1, 1) := by decide +kernel
theorem d_Mod_word_13 : decode b_Mod_word 13 = .ok (.goto 4, 3) := by decide +kernel
theorem d_Mod_word_16 : decode b_Mod_word 16 = .ok (.iconst 0, 1) := by decide +kernel
theorem d_Mod_word_17 : decode b_Mod_word 17 = .ok (.iconst 0, 1) := by decide +kernel
theorem d_Mod_word_18 : decode b_Mod_word 18 = .ok (.invokevirtual 114, 3) := by decide +kernel
theorem d_Mod_word_21 : decode b_Mod_word 21 = .ok (.ifCond .eq 7, 3) := by decide +kernel
theorem d_Mod_word_24 : decode b_Mod_word 24 = .ok (.iconst 0, 1) := by decide +kernel
theorem d_Mod_word_25 : decode b_Mod_word 25 = .ok (.goto 9, 3) := by decide +kernel
theorem d_Mod_word_28 : decode b_Mod_word 28 = .ok (.aload_n 0, 1) := by decide +kernel
theorem d_Mod_word_29 : decode b_Mod_word 29 = .ok (.getfield 59, 3) := by decide +kernel
theorem d_Mod_word_32 : decode b_Mod_word 32 = .ok (.iload_n 1, 1) := by decide +kernel
theorem d_Mod_word_33 : decode b_Mod_word 33 = .ok (.iaload, 1) := by decide +kernel
theorem d_Mod_word_34 : decode b_Mod_word 34 = .ok (.ireturn, 1) := by decide +kernel
theorem d_Mod_clear_0 : decode b_Mod_clear 0 = .ok (.aload_n 0, 1) := by decide +kernel
theorem d_Mod_clear_1 : decode b_Mod_clear 1 = .ok (.iconst 0, 1) := by decide +kernel
theorem d_Mod_clear_2 : decode b_Mod_clear 2 = .ok (.putfield 78, 3) := by decide +kernel
theorem d_Mod_clear_5 : decode b_Mod_clear 5 = .ok (.aload_n 0, 1) := by decide +kernel
theorem d_Mod_clear_6 : decode b_Mod_clear 6 = .ok (.getfield 84, 3) := by decide +kernel
theorem d_Mod_clear_9 : decode b_Mod_clear 9 = .ok (.ireturn, 1) := by decide +kernel
theorem d_Mod_seen_0 : decode b_Mod_seen 0 = .ok (.aload_n 0, 1) := by decide +kernel
theorem d_Mod_seen_1 : decode b_Mod_seen 1 = .ok (.iconst 0, 1) := by decide +kernel
theorem d_Mod_seen_2 : decode b_Mod_seen 2 = .ok (.putfield 78, 3) := by decide +kernel
theorem d_Mod_seen_5 : decode b_Mod_seen 5 = .ok (.aload_n 0, 1) := by decide +kernel
theorem d_Mod_seen_6 : decode b_Mod_seen 6 = .ok (.getfield 81, 3) := by decide +kernel
theorem d_Mod_seen_9 : decode b_Mod_seen 9 = .ok (.ireturn, 1) := by decide +kernel
theorem d_Mod_level_0 : decode b_Mod_level 0 = .ok (.aload_n 0, 1) := by decide +kernel
theorem d_Mod_level_1 : decode b_Mod_level 1 = .ok (.iload_n 1, 1) := by decide +kernel
theorem d_Mod_level_2 : decode b_Mod_level 2 = .ok (.ifCond .lt 11, 3) := by decide +kernel
theorem d_Mod_level_5 : decode b_Mod_level 5 = .ok (.iload_n 1, 1) := by decide +kernel
theorem d_Mod_level_6 : decode b_Mod_level 6 = .ok (.aload_n 0, 1) := by decide +kernel
theorem d_Mod_level_7 : decode b_Mod_level 7 = .ok (.getfield 84, 3) := by decide +kernel
theorem d_Mod_level_10 : decode b_Mod_level 10 = .ok (.if_icmp .le 7, 3) := by decide +kernel
theorem d_Mod_level_13 : decode b_Mod_level 13 = .ok (.iconst 1, 1) := by decide +kernel
theorem d_Mod_level_14 : decode b_Mod_level 14 = .ok (.goto 4, 3) := by decide +kernel
theorem d_Mod_level_17 : decode b_Mod_level 17 = .ok (.iconst 0, 1) := by decide +kernel
theorem d_Mod_level_18 : decode b_Mod_level 18 = .ok (.iconst 0, 1) := by decide +kernel
theorem d_Mod_level_19 : decode b_Mod_level 19 = .ok (.invokevirtual 114, 3) := by decide +kernel
theorem d_Mod_level_22 : decode b_Mod_level 22 = .ok (.ifCond .eq 5, 3) := by decide +kernel
theorem d_Mod_level_25 : decode b_Mod_level 25 = .ok (.iconst 0, 1) := by decide +kernel
theorem d_Mod_level_26 : decode b_Mod_level 26 = .ok (.ireturn, 1) := by decide +kernel
theorem d_Mod_level_27 : decode b_Mod_level 27 = .ok (.aload_n 0, 1) := by decide +kernel
theorem d_Mod_level_28 : decode b_Mod_level 28 = .ok (.getfield 81, 3) := by decide +kernel
theorem d_Mod_level_31 : decode b_Mod_level 31 = .ok (.ifCond .ne 7, 3) := by decide +kernel
theorem d_Mod_level_34 : decode b_Mod_level 34 = .ok (.iconst 0, 1) := by decide +kernel
theorem d_Mod_level_35 : decode b_Mod_level 35 = .ok (.goto 33, 3) := by decide +kernel
theorem d_Mod_level_38 : decode b_Mod_level 38 = .ok (.iload_n 1, 1) := by decide +kernel
theorem d_Mod_level_39 : decode b_Mod_level 39 = .ok (.aload_n 0, 1) := by decide +kernel
theorem d_Mod_level_40 : decode b_Mod_level 40 = .ok (.getfield 84, 3) := by decide +kernel
theorem d_Mod_level_43 : decode b_Mod_level 43 = .ok (.if_icmp .ne 10, 3) := by decide +kernel
theorem d_Mod_level_46 : decode b_Mod_level 46 = .ok (.aload_n 0, 1) := by decide +kernel
theorem d_Mod_level_47 : decode b_Mod_level 47 = .ok (.getfield 81, 3) := by decide +kernel
theorem d_Mod_level_50 : decode b_Mod_level 50 = .ok (.goto 11, 3) := by decide +kernel
theorem d_Mod_level_53 : decode b_Mod_level 53 = .ok (.aload_n 0, 1) := by decide +kernel
theorem d_Mod_level_54 : decode b_Mod_level 54 = .ok (.getfield 53, 3) := by decide +kernel
theorem d_Mod_level_57 : decode b_Mod_level 57 = .ok (.iload_n 1, 1) := by decide +kernel
theorem d_Mod_level_58 : decode b_Mod_level 58 = .ok (.iconst 1, 1) := by decide +kernel
theorem d_Mod_level_59 : decode b_Mod_level 59 = .ok (.iadd, 1) := by decide +kernel
theorem d_Mod_level_60 : decode b_Mod_level 60 = .ok (.iaload, 1) := by decide +kernel
theorem d_Mod_level_61 : decode b_Mod_level 61 = .ok (.aload_n 0, 1) := by decide +kernel
theorem d_Mod_level_62 : decode b_Mod_level 62 = .ok (.getfield 53, 3) := by decide +kernel
theorem d_Mod_level_65 : decode b_Mod_level 65 = .ok (.iload_n 1, 1) := by decide +kernel
theorem d_Mod_level_66 : decode b_Mod_level 66 = .ok (.iaload, 1) := by decide +kernel
theorem d_Mod_level_67 : decode b_Mod_level 67 = .ok (.isub, 1) := by decide +kernel
theorem d_Mod_level_68 : decode b_Mod_level 68 = .ok (.ireturn, 1) := by decide +kernel
theorem d_Mod_begin_0 : decode b_Mod_begin 0 = .ok (.aload_n 0, 1) := by decide +kernel
theorem d_Mod_begin_1 : decode b_Mod_begin 1 = .ok (.iconst 0, 1) := by decide +kernel
theorem d_Mod_begin_2 : decode b_Mod_begin 2 = .ok (.putfield 78, 3) := by decide +kernel
theorem d_Mod_begin_5 : decode b_Mod_begin 5 = .ok (.aload_n 0, 1) := by decide +kernel
theorem d_Mod_begin_6 : decode b_Mod_begin 6 = .ok (.invokevirtual 94, 3) := by decide +kernel
theorem d_Mod_begin_9 : decode b_Mod_begin 9 = .ok (.return_, 1) := by decide +kernel
theorem d_Mod_cycle_0 : decode b_Mod_cycle 0 = .ok (.aload_n 0, 1) := by decide +kernel
theorem d_Mod_cycle_1 : decode b_Mod_cycle 1 = .ok (.iconst 0, 1) := by decide +kernel
theorem d_Mod_cycle_2 : decode b_Mod_cycle 2 = .ok (.putfield 78, 3) := by decide +kernel
theorem d_Mod_cycle_5 : decode b_Mod_cycle 5 = .ok (.aload_n 0, 1) := by decide +kernel
theorem d_Mod_cycle_6 : decode b_Mod_cycle 6 = .ok (.aload_n 0, 1) := by decide +kernel
theorem d_Mod_cycle_7 : decode b_Mod_cycle 7 = .ok (.getfield 107, 3) := by decide +kernel
theorem d_Mod_cycle_10 : decode b_Mod_cycle 10 = .ok (.iload_n 1, 1) := by decide +kernel
theorem d_Mod_cycle_11 : decode b_Mod_cycle 11 = .ok (.invokevirtual 128, 3) := by decide +kernel
theorem d_Mod_cycle_14 : decode b_Mod_cycle 14 = .ok (.iconst 0, 1) := by decide +kernel
theorem d_Mod_cycle_15 : decode b_Mod_cycle 15 = .ok (.istore_n 2, 1) := by decide +kernel
theorem d_Mod_cycle_16 : decode b_Mod_cycle 16 = .ok (.iload_n 2, 1) := by decide +kernel
theorem d_Mod_cycle_17 : decode b_Mod_cycle 17 = .ok (.aload_n 0, 1) := by decide +kernel
theorem d_Mod_cycle_18 : decode b_Mod_cycle 18 = .ok (.getfield 72, 3) := by decide +kernel
theorem d_Mod_cycle_21 : decode b_Mod_cycle 21 = .ok (.if_icmp .ge 21, 3) := by decide +kernel
theorem d_Mod_cycle_24 : decode b_Mod_cycle 24 = .ok (.aload_n 0, 1) := by decide +kernel
theorem d_Mod_cycle_25 : decode b_Mod_cycle 25 = .ok (.getfield 66, 3) := by decide +kernel
theorem d_Mod_cycle_28 : decode b_Mod_cycle 28 = .ok (.iload_n 2, 1) := by decide +kernel
theorem d_Mod_cycle_29 : decode b_Mod_cycle 29 = .ok (.aload_n 0, 1) := by decide +kernel
theorem d_Mod_cycle_30 : decode b_Mod_cycle 30 = .ok (.getfield 41, 3) := by decide +kernel
theorem d_Mod_cycle_33 : decode b_Mod_cycle 33 = .ok (.iload_n 2, 1) := by decide +kernel
theorem d_Mod_cycle_34 : decode b_Mod_cycle 34 = .ok (.baload, 1) := by decide +kernel
theorem d_Mod_cycle_35 : decode b_Mod_cycle 35 = .ok (.bastore, 1) := by decide +kernel
theorem d_Mod_cycle_36 : decode b_Mod_cycle 36 = .ok (.iinc 2 1, 3) := by decide +kernel
theorem d_Mod_cycle_39 : decode b_Mod_cycle 39 = .ok (.goto (-23), 3) := by decide +kernel
theorem d_Mod_cycle_42 : decode b_Mod_cycle 42 = .ok (.aload_n 0, 1) := by decide +kernel
theorem d_Mod_cycle_43 : decode b_Mod_cycle 43 = .ok (.aload_n 0, 1) := by decide +kernel
theorem d_Mod_cycle_44 : decode b_Mod_cycle 44 = .ok (.invokevirtual 132, 3) := by decide +kernel
theorem d_Mod_cycle_47 : decode b_Mod_cycle 47 = .ok (.putfield 62, 3) := by decide +kernel
theorem d_Mod_cycle_50 : decode b_Mod_cycle 50 = .ok (.aload_n 0, 1) := by decide +kernel
theorem d_Mod_cycle_51 : decode b_Mod_cycle 51 = .ok (.aload_n 0, 1) := by decide +kernel
theorem d_Mod_cycle_52 : decode b_Mod_cycle 52 = .ok (.invokevirtual 135, 3) := by decide +kernel
theorem d_Mod_cycle_55 : decode b_Mod_cycle 55 = .ok (.putfield 107, 3) := by decide +kernel
theorem d_Mod_cycle_58 : decode b_Mod_cycle 58 = .ok (.aload_n 0, 1) := by decide +kernel
theorem d_Mod_cycle_59 : decode b_Mod_cycle 59 = .ok (.dup, 1) := by decide +kernel
theorem d_Mod_cycle_60 : decode b_Mod_cycle 60 = .ok (.getfield 100, 3) := by decide +kernel
theorem d_Mod_cycle_63 : decode b_Mod_cycle 63 = .ok (.iconst 1, 1) := by decide +kernel
theorem d_Mod_cycle_64 : decode b_Mod_cycle 64 = .ok (.iadd, 1) := by decide +kernel
theorem d_Mod_cycle_65 : decode b_Mod_cycle 65 = .ok (.putfield 100, 3) := by decide +kernel
theorem d_Mod_cycle_68 : decode b_Mod_cycle 68 = .ok (.aload_n 0, 1) := by decide +kernel
theorem d_Mod_cycle_69 : decode b_Mod_cycle 69 = .ok (.getfield 62, 3) := by decide +kernel
theorem d_Mod_cycle_72 : decode b_Mod_cycle 72 = .ok (.ifCond .lt 7, 3) := by decide +kernel
theorem d_Mod_cycle_75 : decode b_Mod_cycle 75 = .ok (.iconst 1, 1) := by decide +kernel
theorem d_Mod_cycle_76 : decode b_Mod_cycle 76 = .ok (.goto 4, 3) := by decide +kernel
theorem d_Mod_cycle_79 : decode b_Mod_cycle 79 = .ok (.iconst 0, 1) := by decide +kernel
theorem d_Mod_cycle_80 : decode b_Mod_cycle 80 = .ok (.ireturn, 1) := by decide +kernel
theorem d_Mod_truth_0 : decode b_Mod_truth 0 = .ok (.aload_n 0, 1) := by decide +kernel
theorem d_Mod_truth_1 : decode b_Mod_truth 1 = .ok (.iload_n 1, 1) := by decide +kernel
theorem d_Mod_truth_2 : decode b_Mod_truth 2 = .ok (.aload_n 0, 1) := by decide +kernel
theorem d_Mod_truth_3 : decode b_Mod_truth 3 = .ok (.getfield 72, 3) := by decide +kernel
theorem d_Mod_truth_6 : decode b_Mod_truth 6 = .ok (.invokestatic 110, 3) := by decide +kernel
theorem d_Mod_truth_9 : decode b_Mod_truth 9 = .ok (.ifCond .ne 7, 3) := by decide +kernel
theorem d_Mod_truth_12 : decode b_Mod_truth 12 = .ok (.iconst 1, 1) := by decide +kernel
theorem d_Mod_truth_13 : decode b_Mod_truth 13 = .ok (.goto 4, 3) := by decide +kernel
theorem d_Mod_truth_16 : decode b_Mod_truth 16 = .ok (.iconst 0, 1) := by decide +kernel
theorem d_Mod_truth_17 : decode b_Mod_truth 17 = .ok (.iconst 0, 1) := by decide +kernel
theorem d_Mod_truth_18 : decode b_Mod_truth 18 = .ok (.invokevirtual 114, 3) := by decide +kernel
theorem d_Mod_truth_21 : decode b_Mod_truth 21 = .ok (.ifCond .ne 16, 3) := by decide +kernel
theorem d_Mod_truth_24 : decode b_Mod_truth 24 = .ok (.aload_n 0, 1) := by decide +kernel
theorem d_Mod_truth_25 : decode b_Mod_truth 25 = .ok (.getfield 66, 3) := by decide +kernel
theorem d_Mod_truth_28 : decode b_Mod_truth 28 = .ok (.iload_n 1, 1) := by decide +kernel
theorem d_Mod_truth_29 : decode b_Mod_truth 29 = .ok (.baload, 1) := by decide +kernel
theorem d_Mod_truth_30 : decode b_Mod_truth 30 = .ok (.ifCond .eq 7, 3) := by decide +kernel
theorem d_Mod_truth_33 : decode b_Mod_truth 33 = .ok (.iconst 1, 1) := by decide +kernel
theorem d_Mod_truth_34 : decode b_Mod_truth 34 = .ok (.goto 4, 3) := by decide +kernel
theorem d_Mod_truth_37 : decode b_Mod_truth 37 = .ok (.iconst 0, 1) := by decide +kernel
theorem d_Mod_truth_38 : decode b_Mod_truth 38 = .ok (.ireturn, 1) := by decide +kernel
theorem d_Mod_replay_0 : decode b_Mod_replay 0 = .ok (.aload_n 0, 1) := by decide +kernel
theorem d_Mod_replay_1 : decode b_Mod_replay 1 = .ok (.iconst 0, 1) := by decide +kernel
theorem d_Mod_replay_2 : decode b_Mod_replay 2 = .ok (.putfield 78, 3) := by decide +kernel
theorem d_Mod_replay_5 : decode b_Mod_replay 5 = .ok (.aload_n 0, 1) := by decide +kernel
theorem d_Mod_replay_6 : decode b_Mod_replay 6 = .ok (.getfield 91, 3) := by decide +kernel
theorem d_Mod_replay_9 : decode b_Mod_replay 9 = .ok (.ifCond .ne 5, 3) := by decide +kernel
theorem d_Mod_replay_12 : decode b_Mod_replay 12 = .ok (.iconst (-1), 1) := by decide +kernel
theorem d_Mod_replay_13 : decode b_Mod_replay 13 = .ok (.ireturn, 1) := by decide +kernel
theorem d_Mod_replay_14 : decode b_Mod_replay 14 = .ok (.aload_n 0, 1) := by decide +kernel
theorem d_Mod_replay_15 : decode b_Mod_replay 15 = .ok (.invokevirtual 94, 3) := by decide +kernel
theorem d_Mod_replay_18 : decode b_Mod_replay 18 = .ok (.iconst (-1), 1) := by decide +kernel
theorem d_Mod_replay_19 : decode b_Mod_replay 19 = .ok (.istore_n 1, 1) := by decide +kernel
theorem d_Mod_replay_20 : decode b_Mod_replay 20 = .ok (.iconst 0, 1) := by decide +kernel
theorem d_Mod_replay_21 : decode b_Mod_replay 21 = .ok (.istore_n 2, 1) := by decide +kernel
theorem d_Mod_replay_22 : decode b_Mod_replay 22 = .ok (.iload_n 2, 1) := by decide +kernel
theorem d_Mod_replay_23 : decode b_Mod_replay 23 = .ok (.aload_n 0, 1) := by decide +kernel
theorem d_Mod_replay_24 : decode b_Mod_replay 24 = .ok (.getfield 91, 3) := by decide +kernel
theorem d_Mod_replay_27 : decode b_Mod_replay 27 = .ok (.if_icmp .ge 28, 3) := by decide +kernel
theorem d_Mod_replay_30 : decode b_Mod_replay 30 = .ok (.aload_n 0, 1) := by decide +kernel
theorem d_Mod_replay_31 : decode b_Mod_replay 31 = .ok (.aload_n 0, 1) := by decide +kernel
theorem d_Mod_replay_32 : decode b_Mod_replay 32 = .ok (.getfield 59, 3) := by decide +kernel
theorem d_Mod_replay_35 : decode b_Mod_replay 35 = .ok (.iload_n 2, 1) := by decide +kernel
theorem d_Mod_replay_36 : decode b_Mod_replay 36 = .ok (.iaload, 1) := by decide +kernel
theorem d_Mod_replay_37 : decode b_Mod_replay 37 = .ok (.invokevirtual 149, 3) := by decide +kernel
theorem d_Mod_replay_40 : decode b_Mod_replay 40 = .ok (.ifCond .eq 9, 3) := by decide +kernel
theorem d_Mod_replay_43 : decode b_Mod_replay 43 = .ok (.iload_n 1, 1) := by decide +kernel
theorem d_Mod_replay_44 : decode b_Mod_replay 44 = .ok (.ifCond .ge 5, 3) := by decide +kernel
theorem d_Mod_replay_47 : decode b_Mod_replay 47 = .ok (.iload_n 2, 1) := by decide +kernel
theorem d_Mod_replay_48 : decode b_Mod_replay 48 = .ok (.istore_n 1, 1) := by decide +kernel
theorem d_Mod_replay_49 : decode b_Mod_replay 49 = .ok (.iinc 2 1, 3) := by decide +kernel
theorem d_Mod_replay_52 : decode b_Mod_replay 52 = .ok (.goto (-30), 3) := by decide +kernel
theorem d_Mod_replay_55 : decode b_Mod_replay 55 = .ok (.iload_n 1, 1) := by decide +kernel
theorem d_Mod_replay_56 : decode b_Mod_replay 56 = .ok (.ireturn, 1) := by decide +kernel
theorem d_Mod_count_0 : decode b_Mod_count 0 = .ok (.aload_n 0, 1) := by decide +kernel
theorem d_Mod_count_1 : decode b_Mod_count 1 = .ok (.iconst 0, 1) := by decide +kernel
theorem d_Mod_count_2 : decode b_Mod_count 2 = .ok (.putfield 78, 3) := by decide +kernel
theorem d_Mod_count_5 : decode b_Mod_count 5 = .ok (.iload_n 1, 1) := by decide +kernel
theorem d_Mod_count_6 : decode b_Mod_count 6 = .ok (.tableswitch 90 0 7 #[46, 51, 56, 63, 70, 75, 80, 85], 46) := by decide +kernel
theorem d_Mod_count_52 : decode b_Mod_count 52 = .ok (.aload_n 0, 1) := by decide +kernel
theorem d_Mod_count_53 : decode b_Mod_count 53 = .ok (.getfield 69, 3) := by decide +kernel
theorem d_Mod_count_56 : decode b_Mod_count 56 = .ok (.ireturn, 1) := by decide +kernel
theorem d_Mod_count_57 : decode b_Mod_count 57 = .ok (.aload_n 0, 1) := by decide +kernel
theorem d_Mod_count_58 : decode b_Mod_count 58 = .ok (.getfield 72, 3) := by decide +kernel
theorem d_Mod_count_61 : decode b_Mod_count 61 = .ok (.ireturn, 1) := by decide +kernel
theorem d_Mod_count_62 : decode b_Mod_count 62 = .ok (.aload_n 0, 1) := by decide +kernel
theorem d_Mod_count_63 : decode b_Mod_count 63 = .ok (.getfield 7, 3) := by decide +kernel
theorem d_Mod_count_66 : decode b_Mod_count 66 = .ok (.iconst 0, 1) := by decide +kernel
theorem d_Mod_count_67 : decode b_Mod_count 67 = .ok (.iaload, 1) := by decide +kernel
theorem d_Mod_count_68 : decode b_Mod_count 68 = .ok (.ireturn, 1) := by decide +kernel
theorem d_Mod_count_69 : decode b_Mod_count 69 = .ok (.aload_n 0, 1) := by decide +kernel
theorem d_Mod_count_70 : decode b_Mod_count 70 = .ok (.getfield 7, 3) := by decide +kernel
theorem d_Mod_count_73 : decode b_Mod_count 73 = .ok (.iconst 1, 1) := by decide +kernel
theorem d_Mod_count_74 : decode b_Mod_count 74 = .ok (.iaload, 1) := by decide +kernel
theorem d_Mod_count_75 : decode b_Mod_count 75 = .ok (.ireturn, 1) := by decide +kernel
theorem d_Mod_count_76 : decode b_Mod_count 76 = .ok (.aload_n 0, 1) := by decide +kernel
theorem d_Mod_count_77 : decode b_Mod_count 77 = .ok (.getfield 118, 3) := by decide +kernel
theorem d_Mod_count_80 : decode b_Mod_count 80 = .ok (.ireturn, 1) := by decide +kernel
theorem d_Mod_count_81 : decode b_Mod_count 81 = .ok (.aload_n 0, 1) := by decide +kernel
theorem d_Mod_count_82 : decode b_Mod_count 82 = .ok (.getfield 121, 3) := by decide +kernel
theorem d_Mod_count_85 : decode b_Mod_count 85 = .ok (.ireturn, 1) := by decide +kernel
theorem d_Mod_count_86 : decode b_Mod_count 86 = .ok (.aload_n 0, 1) := by decide +kernel
theorem d_Mod_count_87 : decode b_Mod_count 87 = .ok (.getfield 100, 3) := by decide +kernel
theorem d_Mod_count_90 : decode b_Mod_count 90 = .ok (.ireturn, 1) := by decide +kernel
theorem d_Mod_count_91 : decode b_Mod_count 91 = .ok (.aload_n 0, 1) := by decide +kernel
theorem d_Mod_count_92 : decode b_Mod_count 92 = .ok (.getfield 62, 3) := by decide +kernel
theorem d_Mod_count_95 : decode b_Mod_count 95 = .ok (.ireturn, 1) := by decide +kernel
theorem d_Mod_count_96 : decode b_Mod_count 96 = .ok (.iconst (-1), 1) := by decide +kernel
theorem d_Mod_count_97 : decode b_Mod_count 97 = .ok (.ireturn, 1) := by decide +kernel
end
section
-- ===== decode rows =====
theorem d_BM_init_0 : decode b_BM_init 0 = .ok (.aload_n 0, 1) := by decide +kernel
theorem d_BM_init_1 : decode b_BM_init 1 = .ok (.invokespecial 1, 3) := by decide +kernel
theorem d_BM_init_4 : decode b_BM_init 4 = .ok (.aload_n 0, 1) := by decide +kernel
theorem d_BM_init_5 : decode b_BM_init 5 = .ok (.new 7, 3) := by decide +kernel
theorem d_BM_init_8 : decode b_BM_init 8 = .ok (.dup, 1) := by decide +kernel
theorem d_BM_init_9 : decode b_BM_init 9 = .ok (.iconst 1, 1) := by decide +kernel
theorem d_BM_init_10 : decode b_BM_init 10 = .ok (.iload_n 1, 1) := by decide +kernel
theorem d_BM_init_11 : decode b_BM_init 11 = .ok (.iconst 1, 1) := by decide +kernel
theorem d_BM_init_12 : decode b_BM_init 12 = .ok (.isub, 1) := by decide +kernel
theorem d_BM_init_13 : decode b_BM_init 13 = .ok (.iconst 4, 1) := by decide +kernel
theorem d_BM_init_14 : decode b_BM_init 14 = .ok (.invokestatic 9, 3) := by decide +kernel
theorem d_BM_init_17 : decode b_BM_init 17 = .ok (.iadd, 1) := by decide +kernel
theorem d_BM_init_18 : decode b_BM_init 18 = .ok (.invokespecial 15, 3) := by decide +kernel
theorem d_BM_init_21 : decode b_BM_init 21 = .ok (.putfield 18, 3) := by decide +kernel
theorem d_BM_init_24 : decode b_BM_init 24 = .ok (.aload_n 0, 1) := by decide +kernel
theorem d_BM_init_25 : decode b_BM_init 25 = .ok (.new 24, 3) := by decide +kernel
theorem d_BM_init_28 : decode b_BM_init 28 = .ok (.dup, 1) := by decide +kernel
theorem d_BM_init_29 : decode b_BM_init 29 = .ok (.aload_n 0, 1) := by decide +kernel
theorem d_BM_init_30 : decode b_BM_init 30 = .ok (.getfield 18, 3) := by decide +kernel
theorem d_BM_init_33 : decode b_BM_init 33 = .ok (.invokespecial 26, 3) := by decide +kernel
theorem d_BM_init_36 : decode b_BM_init 36 = .ok (.putfield 29, 3) := by decide +kernel
theorem d_BM_init_39 : decode b_BM_init 39 = .ok (.aload_n 0, 1) := by decide +kernel
theorem d_BM_init_40 : decode b_BM_init 40 = .ok (.new 33, 3) := by decide +kernel
theorem d_BM_init_43 : decode b_BM_init 43 = .ok (.dup, 1) := by decide +kernel
theorem d_BM_init_44 : decode b_BM_init 44 = .ok (.aload_n 0, 1) := by decide +kernel
theorem d_BM_init_45 : decode b_BM_init 45 = .ok (.getfield 18, 3) := by decide +kernel
theorem d_BM_init_48 : decode b_BM_init 48 = .ok (.invokespecial 35, 3) := by decide +kernel
theorem d_BM_init_51 : decode b_BM_init 51 = .ok (.putfield 36, 3) := by decide +kernel
theorem d_BM_init_54 : decode b_BM_init 54 = .ok (.return_, 1) := by decide +kernel
theorem d_Math_floorMod_0 : decode b_Math_floorMod 0 = .ok (.iload_n 0, 1) := by decide +kernel
theorem d_Math_floorMod_1 : decode b_Math_floorMod 1 = .ok (.iload_n 1, 1) := by decide +kernel
theorem d_Math_floorMod_2 : decode b_Math_floorMod 2 = .ok (.irem, 1) := by decide +kernel
theorem d_Math_floorMod_3 : decode b_Math_floorMod 3 = .ok (.istore_n 2, 1) := by decide +kernel
theorem d_Math_floorMod_4 : decode b_Math_floorMod 4 = .ok (.iload_n 0, 1) := by decide +kernel
theorem d_Math_floorMod_5 : decode b_Math_floorMod 5 = .ok (.iload_n 1, 1) := by decide +kernel
theorem d_Math_floorMod_6 : decode b_Math_floorMod 6 = .ok (.ixor, 1) := by decide +kernel
theorem d_Math_floorMod_7 : decode b_Math_floorMod 7 = .ok (.ifCond .ge 11, 3) := by decide +kernel
theorem d_Math_floorMod_10 : decode b_Math_floorMod 10 = .ok (.iload_n 2, 1) := by decide +kernel
theorem d_Math_floorMod_11 : decode b_Math_floorMod 11 = .ok (.ifCond .eq 7, 3) := by decide +kernel
theorem d_Math_floorMod_14 : decode b_Math_floorMod 14 = .ok (.iload_n 2, 1) := by decide +kernel
theorem d_Math_floorMod_15 : decode b_Math_floorMod 15 = .ok (.iload_n 1, 1) := by decide +kernel
theorem d_Math_floorMod_16 : decode b_Math_floorMod 16 = .ok (.iadd, 1) := by decide +kernel
theorem d_Math_floorMod_17 : decode b_Math_floorMod 17 = .ok (.ireturn, 1) := by decide +kernel
theorem d_Math_floorMod_18 : decode b_Math_floorMod 18 = .ok (.iload_n 2, 1) := by decide +kernel
theorem d_Math_floorMod_19 : decode b_Math_floorMod 19 = .ok (.ireturn, 1) := by decide +kernel
theorem d_BM_length_0 : decode b_BM_length 0 = .ok (.aload_n 0, 1) := by decide +kernel
theorem d_BM_length_1 : decode b_BM_length 1 = .ok (.getfield 29, 3) := by decide +kernel
theorem d_BM_length_4 : decode b_BM_length 4 = .ok (.getfield 110, 3) := by decide +kernel
theorem d_BM_length_7 : decode b_BM_length 7 = .ok (.ireturn, 1) := by decide +kernel
theorem d_BM_clear_0 : decode b_BM_clear 0 = .ok (.aload_n 0, 1) := by decide +kernel
theorem d_BM_clear_1 : decode b_BM_clear 1 = .ok (.getfield 29, 3) := by decide +kernel
theorem d_BM_clear_4 : decode b_BM_clear 4 = .ok (.getfield 125, 3) := by decide +kernel
theorem d_BM_clear_7 : decode b_BM_clear 7 = .ok (.ireturn, 1) := by decide +kernel
theorem d_BM_seen_0 : decode b_BM_seen 0 = .ok (.aload_n 0, 1) := by decide +kernel
theorem d_BM_seen_1 : decode b_BM_seen 1 = .ok (.getfield 29, 3) := by decide +kernel
theorem d_BM_seen_4 : decode b_BM_seen 4 = .ok (.getfield 128, 3) := by decide +kernel
theorem d_BM_seen_7 : decode b_BM_seen 7 = .ok (.ireturn, 1) := by decide +kernel
theorem d_BM_begin_0 : decode b_BM_begin 0 = .ok (.aload_n 0, 1) := by decide +kernel
theorem d_BM_begin_1 : decode b_BM_begin 1 = .ok (.getfield 36, 3) := by decide +kernel
theorem d_BM_begin_4 : decode b_BM_begin 4 = .ok (.invokevirtual 136, 3) := by decide +kernel
theorem d_BM_begin_7 : decode b_BM_begin 7 = .ok (.return_, 1) := by decide +kernel
theorem d_BM_cycle_0 : decode b_BM_cycle 0 = .ok (.aload_n 0, 1) := by decide +kernel
theorem d_BM_cycle_1 : decode b_BM_cycle 1 = .ok (.getfield 36, 3) := by decide +kernel
theorem d_BM_cycle_4 : decode b_BM_cycle 4 = .ok (.iload_n 1, 1) := by decide +kernel
theorem d_BM_cycle_5 : decode b_BM_cycle 5 = .ok (.invokevirtual 139, 3) := by decide +kernel
theorem d_BM_cycle_8 : decode b_BM_cycle 8 = .ok (.ireturn, 1) := by decide +kernel
theorem d_BM_replay_0 : decode b_BM_replay 0 = .ok (.aload_n 0, 1) := by decide +kernel
theorem d_BM_replay_1 : decode b_BM_replay 1 = .ok (.getfield 29, 3) := by decide +kernel
theorem d_BM_replay_4 : decode b_BM_replay 4 = .ok (.getfield 110, 3) := by decide +kernel
theorem d_BM_replay_7 : decode b_BM_replay 7 = .ok (.iconst (-1), 1) := by decide +kernel
theorem d_BM_replay_8 : decode b_BM_replay 8 = .ok (.if_icmp .ne 5, 3) := by decide +kernel
theorem d_BM_replay_11 : decode b_BM_replay 11 = .ok (.iconst (-1), 1) := by decide +kernel
theorem d_BM_replay_12 : decode b_BM_replay 12 = .ok (.ireturn, 1) := by decide +kernel
theorem d_BM_replay_13 : decode b_BM_replay 13 = .ok (.aload_n 0, 1) := by decide +kernel
theorem d_BM_replay_14 : decode b_BM_replay 14 = .ok (.getfield 36, 3) := by decide +kernel
theorem d_BM_replay_17 : decode b_BM_replay 17 = .ok (.invokevirtual 136, 3) := by decide +kernel
theorem d_BM_replay_20 : decode b_BM_replay 20 = .ok (.iconst (-1), 1) := by decide +kernel
theorem d_BM_replay_21 : decode b_BM_replay 21 = .ok (.istore_n 1, 1) := by decide +kernel
theorem d_BM_replay_22 : decode b_BM_replay 22 = .ok (.iconst 0, 1) := by decide +kernel
theorem d_BM_replay_23 : decode b_BM_replay 23 = .ok (.istore_n 2, 1) := by decide +kernel
theorem d_BM_replay_24 : decode b_BM_replay 24 = .ok (.iload_n 2, 1) := by decide +kernel
theorem d_BM_replay_25 : decode b_BM_replay 25 = .ok (.aload_n 0, 1) := by decide +kernel
theorem d_BM_replay_26 : decode b_BM_replay 26 = .ok (.getfield 29, 3) := by decide +kernel
theorem d_BM_replay_29 : decode b_BM_replay 29 = .ok (.getfield 110, 3) := by decide +kernel
theorem d_BM_replay_32 : decode b_BM_replay 32 = .ok (.if_icmp .ge 36, 3) := by decide +kernel
theorem d_BM_replay_35 : decode b_BM_replay 35 = .ok (.aload_n 0, 1) := by decide +kernel
theorem d_BM_replay_36 : decode b_BM_replay 36 = .ok (.getfield 36, 3) := by decide +kernel
theorem d_BM_replay_39 : decode b_BM_replay 39 = .ok (.aload_n 0, 1) := by decide +kernel
theorem d_BM_replay_40 : decode b_BM_replay 40 = .ok (.getfield 29, 3) := by decide +kernel
theorem d_BM_replay_43 : decode b_BM_replay 43 = .ok (.iload_n 2, 1) := by decide +kernel
theorem d_BM_replay_44 : decode b_BM_replay 44 = .ok (.invokevirtual 121, 3) := by decide +kernel
theorem d_BM_replay_47 : decode b_BM_replay 47 = .ok (.invokevirtual 139, 3) := by decide +kernel
theorem d_BM_replay_50 : decode b_BM_replay 50 = .ok (.istore_n 3, 1) := by decide +kernel
theorem d_BM_replay_51 : decode b_BM_replay 51 = .ok (.iload_n 3, 1) := by decide +kernel
theorem d_BM_replay_52 : decode b_BM_replay 52 = .ok (.ifCond .eq 10, 3) := by decide +kernel
theorem d_BM_replay_55 : decode b_BM_replay 55 = .ok (.iload_n 1, 1) := by decide +kernel
theorem d_BM_replay_56 : decode b_BM_replay 56 = .ok (.iconst (-1), 1) := by decide +kernel
theorem d_BM_replay_57 : decode b_BM_replay 57 = .ok (.if_icmp .ne 5, 3) := by decide +kernel
theorem d_BM_replay_60 : decode b_BM_replay 60 = .ok (.iload_n 2, 1) := by decide +kernel
theorem d_BM_replay_61 : decode b_BM_replay 61 = .ok (.istore_n 1, 1) := by decide +kernel
theorem d_BM_replay_62 : decode b_BM_replay 62 = .ok (.iinc 2 1, 3) := by decide +kernel
theorem d_BM_replay_65 : decode b_BM_replay 65 = .ok (.goto (-41), 3) := by decide +kernel
theorem d_BM_replay_68 : decode b_BM_replay 68 = .ok (.iload_n 1, 1) := by decide +kernel
theorem d_BM_replay_69 : decode b_BM_replay 69 = .ok (.ireturn, 1) := by decide +kernel
theorem d_BM_count_0 : decode b_BM_count 0 = .ok (.iload_n 1, 1) := by decide +kernel
theorem d_BM_count_1 : decode b_BM_count 1 = .ok (.tableswitch 119 0 7 #[47, 55, 63, 79, 87, 95, 103, 111], 47) := by decide +kernel
theorem d_BM_count_48 : decode b_BM_count 48 = .ok (.aload_n 0, 1) := by decide +kernel
theorem d_BM_count_49 : decode b_BM_count 49 = .ok (.getfield 18, 3) := by decide +kernel
theorem d_BM_count_52 : decode b_BM_count 52 = .ok (.getfield 147, 3) := by decide +kernel
theorem d_BM_count_55 : decode b_BM_count 55 = .ok (.ireturn, 1) := by decide +kernel
theorem d_BM_count_56 : decode b_BM_count 56 = .ok (.aload_n 0, 1) := by decide +kernel
theorem d_BM_count_57 : decode b_BM_count 57 = .ok (.getfield 18, 3) := by decide +kernel
theorem d_BM_count_60 : decode b_BM_count 60 = .ok (.getfield 150, 3) := by decide +kernel
theorem d_BM_count_63 : decode b_BM_count 63 = .ok (.ireturn, 1) := by decide +kernel
theorem d_BM_count_64 : decode b_BM_count 64 = .ok (.aload_n 0, 1) := by decide +kernel
theorem d_BM_count_65 : decode b_BM_count 65 = .ok (.getfield 18, 3) := by decide +kernel
theorem d_BM_count_68 : decode b_BM_count 68 = .ok (.getfield 153, 3) := by decide +kernel
theorem d_BM_count_71 : decode b_BM_count 71 = .ok (.aload_n 0, 1) := by decide +kernel
theorem d_BM_count_72 : decode b_BM_count 72 = .ok (.getfield 18, 3) := by decide +kernel
theorem d_BM_count_75 : decode b_BM_count 75 = .ok (.getfield 156, 3) := by decide +kernel
theorem d_BM_count_78 : decode b_BM_count 78 = .ok (.isub, 1) := by decide +kernel
theorem d_BM_count_79 : decode b_BM_count 79 = .ok (.ireturn, 1) := by decide +kernel
theorem d_BM_count_80 : decode b_BM_count 80 = .ok (.aload_n 0, 1) := by decide +kernel
theorem d_BM_count_81 : decode b_BM_count 81 = .ok (.getfield 18, 3) := by decide +kernel
theorem d_BM_count_84 : decode b_BM_count 84 = .ok (.getfield 156, 3) := by decide +kernel
theorem d_BM_count_87 : decode b_BM_count 87 = .ok (.ireturn, 1) := by decide +kernel
theorem d_BM_count_88 : decode b_BM_count 88 = .ok (.aload_n 0, 1) := by decide +kernel
theorem d_BM_count_89 : decode b_BM_count 89 = .ok (.getfield 18, 3) := by decide +kernel
theorem d_BM_count_92 : decode b_BM_count 92 = .ok (.invokevirtual 159, 3) := by decide +kernel
theorem d_BM_count_95 : decode b_BM_count 95 = .ok (.ireturn, 1) := by decide +kernel
theorem d_BM_count_96 : decode b_BM_count 96 = .ok (.aload_n 0, 1) := by decide +kernel
theorem d_BM_count_97 : decode b_BM_count 97 = .ok (.getfield 18, 3) := by decide +kernel
theorem d_BM_count_100 : decode b_BM_count 100 = .ok (.getfield 101, 3) := by decide +kernel
theorem d_BM_count_103 : decode b_BM_count 103 = .ok (.ireturn, 1) := by decide +kernel
theorem d_BM_count_104 : decode b_BM_count 104 = .ok (.aload_n 0, 1) := by decide +kernel
theorem d_BM_count_105 : decode b_BM_count 105 = .ok (.getfield 36, 3) := by decide +kernel
theorem d_BM_count_108 : decode b_BM_count 108 = .ok (.getfield 163, 3) := by decide +kernel
theorem d_BM_count_111 : decode b_BM_count 111 = .ok (.ireturn, 1) := by decide +kernel
theorem d_BM_count_112 : decode b_BM_count 112 = .ok (.aload_n 0, 1) := by decide +kernel
theorem d_BM_count_113 : decode b_BM_count 113 = .ok (.getfield 36, 3) := by decide +kernel
theorem d_BM_count_116 : decode b_BM_count 116 = .ok (.getfield 166, 3) := by decide +kernel
theorem d_BM_count_119 : decode b_BM_count 119 = .ok (.ireturn, 1) := by decide +kernel
theorem d_BM_count_120 : decode b_BM_count 120 = .ok (.iconst (-1), 1) := by decide +kernel
theorem d_BM_count_121 : decode b_BM_count 121 = .ok (.ireturn, 1) := by decide +kernel
theorem d_BM_state_0 : decode b_BM_state 0 = .ok (.iload_n 1, 1) := by decide +kernel
theorem d_BM_state_1 : decode b_BM_state 1 = .ok (.ifCond .eq 18, 3) := by decide +kernel
theorem d_BM_state_4 : decode b_BM_state 4 = .ok (.iload_n 1, 1) := by decide +kernel
theorem d_BM_state_5 : decode b_BM_state 5 = .ok (.iconst 1, 1) := by decide +kernel
theorem d_BM_state_6 : decode b_BM_state 6 = .ok (.if_icmp .eq 13, 3) := by decide +kernel
theorem d_BM_state_9 : decode b_BM_state 9 = .ok (.new 40, 3) := by decide +kernel
theorem d_BM_state_12 : decode b_BM_state 12 = .ok (.dup, 1) := by decide +kernel
theorem d_BM_state_13 : decode b_BM_state 13 = .ok (.ldc 42, 2) := by decide +kernel
theorem d_BM_state_15 : decode b_BM_state 15 = .ok (.invokespecial 44, 3) := by decide +kernel
theorem d_BM_state_18 : decode b_BM_state 18 = .ok (.athrow, 1) := by decide +kernel
theorem d_BM_state_19 : decode b_BM_state 19 = .ok (.aload_n 0, 1) := by decide +kernel
theorem d_BM_state_20 : decode b_BM_state 20 = .ok (.getfield 18, 3) := by decide +kernel
theorem d_BM_state_23 : decode b_BM_state 23 = .ok (.invokevirtual 47, 3) := by decide +kernel
theorem d_BM_state_26 : decode b_BM_state 26 = .ok (.ifCond .ne 13, 3) := by decide +kernel
theorem d_BM_state_29 : decode b_BM_state 29 = .ok (.aload_n 0, 1) := by decide +kernel
theorem d_BM_state_30 : decode b_BM_state 30 = .ok (.getfield 18, 3) := by decide +kernel
theorem d_BM_state_33 : decode b_BM_state 33 = .ok (.invokevirtual 51, 3) := by decide +kernel
theorem d_BM_state_36 : decode b_BM_state 36 = .ok (.ifCond .eq 13, 3) := by decide +kernel
theorem d_BM_state_39 : decode b_BM_state 39 = .ok (.new 54, 3) := by decide +kernel
theorem d_BM_state_42 : decode b_BM_state 42 = .ok (.dup, 1) := by decide +kernel
theorem d_BM_state_43 : decode b_BM_state 43 = .ok (.ldc 56, 2) := by decide +kernel
theorem d_BM_state_45 : decode b_BM_state 45 = .ok (.invokespecial 58, 3) := by decide +kernel
theorem d_BM_state_48 : decode b_BM_state 48 = .ok (.athrow, 1) := by decide +kernel
theorem d_BM_state_49 : decode b_BM_state 49 = .ok (.aload_n 0, 1) := by decide +kernel
theorem d_BM_state_50 : decode b_BM_state 50 = .ok (.getfield 18, 3) := by decide +kernel
theorem d_BM_state_53 : decode b_BM_state 53 = .ok (.iload_n 1, 1) := by decide +kernel
theorem d_BM_state_54 : decode b_BM_state 54 = .ok (.iload_n 2, 1) := by decide +kernel
theorem d_BM_state_55 : decode b_BM_state 55 = .ok (.invokevirtual 59, 3) := by decide +kernel
theorem d_BM_state_58 : decode b_BM_state 58 = .ok (.istore_n 3, 1) := by decide +kernel
theorem d_BM_state_59 : decode b_BM_state 59 = .ok (.aload_n 0, 1) := by decide +kernel
theorem d_BM_state_60 : decode b_BM_state 60 = .ok (.invokevirtual 63, 3) := by decide +kernel
theorem d_BM_state_63 : decode b_BM_state 63 = .ok (.iload_n 3, 1) := by decide +kernel
theorem d_BM_state_64 : decode b_BM_state 64 = .ok (.ireturn, 1) := by decide +kernel
theorem d_BM_startAnew_0 : decode b_BM_startAnew 0 = .ok (.aload_n 0, 1) := by decide +kernel
theorem d_BM_startAnew_1 : decode b_BM_startAnew 1 = .ok (.getfield 29, 3) := by decide +kernel
theorem d_BM_startAnew_4 : decode b_BM_startAnew 4 = .ok (.invokevirtual 169, 3) := by decide +kernel
theorem d_BM_startAnew_7 : decode b_BM_startAnew 7 = .ok (.aload_n 0, 1) := by decide +kernel
theorem d_BM_startAnew_8 : decode b_BM_startAnew 8 = .ok (.getfield 36, 3) := by decide +kernel
theorem d_BM_startAnew_11 : decode b_BM_startAnew 11 = .ok (.invokevirtual 136, 3) := by decide +kernel
theorem d_BM_startAnew_14 : decode b_BM_startAnew 14 = .ok (.return_, 1) := by decide +kernel
theorem d_BM_gate_0 : decode b_BM_gate 0 = .ok (.aload_n 0, 1) := by decide +kernel
theorem d_BM_gate_1 : decode b_BM_gate 1 = .ok (.getfield 18, 3) := by decide +kernel
theorem d_BM_gate_4 : decode b_BM_gate 4 = .ok (.iload_n 1, 1) := by decide +kernel
theorem d_BM_gate_5 : decode b_BM_gate 5 = .ok (.iload_n 2, 1) := by decide +kernel
theorem d_BM_gate_6 : decode b_BM_gate 6 = .ok (.iload_n 3, 1) := by decide +kernel
theorem d_BM_gate_7 : decode b_BM_gate 7 = .ok (.invokevirtual 66, 3) := by decide +kernel
theorem d_BM_gate_10 : decode b_BM_gate 10 = .ok (.ifCond .ne 13, 3) := by decide +kernel
theorem d_BM_gate_13 : decode b_BM_gate 13 = .ok (.new 40, 3) := by decide +kernel
theorem d_BM_gate_16 : decode b_BM_gate 16 = .ok (.dup, 1) := by decide +kernel
theorem d_BM_gate_17 : decode b_BM_gate 17 = .ok (.ldc 70, 2) := by decide +kernel
theorem d_BM_gate_19 : decode b_BM_gate 19 = .ok (.invokespecial 44, 3) := by decide +kernel
theorem d_BM_gate_22 : decode b_BM_gate 22 = .ok (.athrow, 1) := by decide +kernel
theorem d_BM_gate_23 : decode b_BM_gate 23 = .ok (.aload_n 0, 1) := by decide +kernel
theorem d_BM_gate_24 : decode b_BM_gate 24 = .ok (.getfield 18, 3) := by decide +kernel
theorem d_BM_gate_27 : decode b_BM_gate 27 = .ok (.invokevirtual 51, 3) := by decide +kernel
theorem d_BM_gate_30 : decode b_BM_gate 30 = .ok (.ifCond .eq 13, 3) := by decide +kernel
theorem d_BM_gate_33 : decode b_BM_gate 33 = .ok (.new 54, 3) := by decide +kernel
theorem d_BM_gate_36 : decode b_BM_gate 36 = .ok (.dup, 1) := by decide +kernel
theorem d_BM_gate_37 : decode b_BM_gate 37 = .ok (.ldc 72, 2) := by decide +kernel
theorem d_BM_gate_39 : decode b_BM_gate 39 = .ok (.invokespecial 58, 3) := by decide +kernel
theorem d_BM_gate_42 : decode b_BM_gate 42 = .ok (.athrow, 1) := by decide +kernel
theorem d_BM_gate_43 : decode b_BM_gate 43 = .ok (.aload_n 0, 1) := by decide +kernel
theorem d_BM_gate_44 : decode b_BM_gate 44 = .ok (.getfield 18, 3) := by decide +kernel
theorem d_BM_gate_47 : decode b_BM_gate 47 = .ok (.iload_n 1, 1) := by decide +kernel
theorem d_BM_gate_48 : decode b_BM_gate 48 = .ok (.iload_n 2, 1) := by decide +kernel
theorem d_BM_gate_49 : decode b_BM_gate 49 = .ok (.iload_n 3, 1) := by decide +kernel
theorem d_BM_gate_50 : decode b_BM_gate 50 = .ok (.invokevirtual 74, 3) := by decide +kernel
theorem d_BM_gate_53 : decode b_BM_gate 53 = .ok (.istore 4, 2) := by decide +kernel
theorem d_BM_gate_55 : decode b_BM_gate 55 = .ok (.aload_n 0, 1) := by decide +kernel
theorem d_BM_gate_56 : decode b_BM_gate 56 = .ok (.invokevirtual 63, 3) := by decide +kernel
theorem d_BM_gate_59 : decode b_BM_gate 59 = .ok (.iload 4, 2) := by decide +kernel
theorem d_BM_gate_61 : decode b_BM_gate 61 = .ok (.ireturn, 1) := by decide +kernel
theorem d_BM_next_0 : decode b_BM_next 0 = .ok (.aload_n 0, 1) := by decide +kernel
theorem d_BM_next_1 : decode b_BM_next 1 = .ok (.getfield 18, 3) := by decide +kernel
theorem d_BM_next_4 : decode b_BM_next 4 = .ok (.iload_n 1, 1) := by decide +kernel
theorem d_BM_next_5 : decode b_BM_next 5 = .ok (.invokevirtual 78, 3) := by decide +kernel
theorem d_BM_next_8 : decode b_BM_next 8 = .ok (.ifCond .eq 14, 3) := by decide +kernel
theorem d_BM_next_11 : decode b_BM_next 11 = .ok (.aload_n 0, 1) := by decide +kernel
theorem d_BM_next_12 : decode b_BM_next 12 = .ok (.getfield 18, 3) := by decide +kernel
theorem d_BM_next_15 : decode b_BM_next 15 = .ok (.iload_n 2, 1) := by decide +kernel
theorem d_BM_next_16 : decode b_BM_next 16 = .ok (.invokevirtual 82, 3) := by decide +kernel
theorem d_BM_next_19 : decode b_BM_next 19 = .ok (.ifCond .ne 13, 3) := by decide +kernel
theorem d_BM_next_22 : decode b_BM_next 22 = .ok (.new 40, 3) := by decide +kernel
theorem d_BM_next_25 : decode b_BM_next 25 = .ok (.dup, 1) := by decide +kernel
theorem d_BM_next_26 : decode b_BM_next 26 = .ok (.ldc 85, 2) := by decide +kernel
theorem d_BM_next_28 : decode b_BM_next 28 = .ok (.invokespecial 44, 3) := by decide +kernel
theorem d_BM_next_31 : decode b_BM_next 31 = .ok (.athrow, 1) := by decide +kernel
theorem d_BM_next_32 : decode b_BM_next 32 = .ok (.aload_n 0, 1) := by decide +kernel
theorem d_BM_next_33 : decode b_BM_next 33 = .ok (.getfield 18, 3) := by decide +kernel
theorem d_BM_next_36 : decode b_BM_next 36 = .ok (.iload_n 1, 1) := by decide +kernel
theorem d_BM_next_37 : decode b_BM_next 37 = .ok (.iload_n 2, 1) := by decide +kernel
theorem d_BM_next_38 : decode b_BM_next 38 = .ok (.invokevirtual 87, 3) := by decide +kernel
theorem d_BM_next_41 : decode b_BM_next 41 = .ok (.istore_n 3, 1) := by decide +kernel
theorem d_BM_next_42 : decode b_BM_next 42 = .ok (.aload_n 0, 1) := by decide +kernel
theorem d_BM_next_43 : decode b_BM_next 43 = .ok (.invokevirtual 63, 3) := by decide +kernel
theorem d_BM_next_46 : decode b_BM_next 46 = .ok (.iload_n 3, 1) := by decide +kernel
theorem d_BM_next_47 : decode b_BM_next 47 = .ok (.ireturn, 1) := by decide +kernel
theorem d_BM_compare_0 : decode b_BM_compare 0 = .ok (.aload_n 0, 1) := by decide +kernel
theorem d_BM_compare_1 : decode b_BM_compare 1 = .ok (.getfield 18, 3) := by decide +kernel
theorem d_BM_compare_4 : decode b_BM_compare 4 = .ok (.iload_n 1, 1) := by decide +kernel
theorem d_BM_compare_5 : decode b_BM_compare 5 = .ok (.invokevirtual 82, 3) := by decide +kernel
theorem d_BM_compare_8 : decode b_BM_compare 8 = .ok (.ifCond .eq 14, 3) := by decide +kernel
theorem d_BM_compare_11 : decode b_BM_compare 11 = .ok (.aload_n 0, 1) := by decide +kernel
theorem d_BM_compare_12 : decode b_BM_compare 12 = .ok (.getfield 18, 3) := by decide +kernel
theorem d_BM_compare_15 : decode b_BM_compare 15 = .ok (.iload_n 2, 1) := by decide +kernel
theorem d_BM_compare_16 : decode b_BM_compare 16 = .ok (.invokevirtual 82, 3) := by decide +kernel
theorem d_BM_compare_19 : decode b_BM_compare 19 = .ok (.ifCond .ne 13, 3) := by decide +kernel
theorem d_BM_compare_22 : decode b_BM_compare 22 = .ok (.new 40, 3) := by decide +kernel
theorem d_BM_compare_25 : decode b_BM_compare 25 = .ok (.dup, 1) := by decide +kernel
theorem d_BM_compare_26 : decode b_BM_compare 26 = .ok (.ldc 90, 2) := by decide +kernel
theorem d_BM_compare_28 : decode b_BM_compare 28 = .ok (.invokespecial 44, 3) := by decide +kernel
theorem d_BM_compare_31 : decode b_BM_compare 31 = .ok (.athrow, 1) := by decide +kernel
theorem d_BM_compare_32 : decode b_BM_compare 32 = .ok (.aload_n 0, 1) := by decide +kernel
theorem d_BM_compare_33 : decode b_BM_compare 33 = .ok (.getfield 18, 3) := by decide +kernel
theorem d_BM_compare_36 : decode b_BM_compare 36 = .ok (.invokevirtual 92, 3) := by decide +kernel
theorem d_BM_compare_39 : decode b_BM_compare 39 = .ok (.ifCond .eq 13, 3) := by decide +kernel
theorem d_BM_compare_42 : decode b_BM_compare 42 = .ok (.new 54, 3) := by decide +kernel
theorem d_BM_compare_45 : decode b_BM_compare 45 = .ok (.dup, 1) := by decide +kernel
theorem d_BM_compare_46 : decode b_BM_compare 46 = .ok (.ldc 95, 2) := by decide +kernel
theorem d_BM_compare_48 : decode b_BM_compare 48 = .ok (.invokespecial 58, 3) := by decide +kernel
theorem d_BM_compare_51 : decode b_BM_compare 51 = .ok (.athrow, 1) := by decide +kernel
theorem d_BM_compare_52 : decode b_BM_compare 52 = .ok (.aload_n 0, 1) := by decide +kernel
theorem d_BM_compare_53 : decode b_BM_compare 53 = .ok (.getfield 18, 3) := by decide +kernel
theorem d_BM_compare_56 : decode b_BM_compare 56 = .ok (.iload_n 1, 1) := by decide +kernel
theorem d_BM_compare_57 : decode b_BM_compare 57 = .ok (.iload_n 2, 1) := by decide +kernel
theorem d_BM_compare_58 : decode b_BM_compare 58 = .ok (.invokevirtual 97, 3) := by decide +kernel
theorem d_BM_compare_61 : decode b_BM_compare 61 = .ok (.aload_n 0, 1) := by decide +kernel
theorem d_BM_compare_62 : decode b_BM_compare 62 = .ok (.invokevirtual 63, 3) := by decide +kernel
theorem d_BM_compare_65 : decode b_BM_compare 65 = .ok (.aload_n 0, 1) := by decide +kernel
theorem d_BM_compare_66 : decode b_BM_compare 66 = .ok (.getfield 18, 3) := by decide +kernel
theorem d_BM_compare_69 : decode b_BM_compare 69 = .ok (.getfield 101, 3) := by decide +kernel
theorem d_BM_compare_72 : decode b_BM_compare 72 = .ok (.ireturn, 1) := by decide +kernel
theorem d_BM_search_0 : decode b_BM_search 0 = .ok (.iload_n 1, 1) := by decide +kernel
theorem d_BM_search_1 : decode b_BM_search 1 = .ok (.iconst 1, 1) := by decide +kernel
theorem d_BM_search_2 : decode b_BM_search 2 = .ok (.if_icmp .lt 10, 3) := by decide +kernel
theorem d_BM_search_5 : decode b_BM_search 5 = .ok (.iload_n 1, 1) := by decide +kernel
theorem d_BM_search_6 : decode b_BM_search 6 = .ok (.sipush 20000, 3) := by decide +kernel
theorem d_BM_search_9 : decode b_BM_search 9 = .ok (.if_icmp .le 13, 3) := by decide +kernel
theorem d_BM_search_12 : decode b_BM_search 12 = .ok (.new 40, 3) := by decide +kernel
theorem d_BM_search_15 : decode b_BM_search 15 = .ok (.dup, 1) := by decide +kernel
theorem d_BM_search_16 : decode b_BM_search 16 = .ok (.ldc 105, 2) := by decide +kernel
theorem d_BM_search_18 : decode b_BM_search 18 = .ok (.invokespecial 44, 3) := by decide +kernel
theorem d_BM_search_21 : decode b_BM_search 21 = .ok (.athrow, 1) := by decide +kernel
theorem d_BM_search_22 : decode b_BM_search 22 = .ok (.aload_n 0, 1) := by decide +kernel
theorem d_BM_search_23 : decode b_BM_search 23 = .ok (.getfield 29, 3) := by decide +kernel
theorem d_BM_search_26 : decode b_BM_search 26 = .ok (.iload_n 1, 1) := by decide +kernel
theorem d_BM_search_27 : decode b_BM_search 27 = .ok (.invokevirtual 107, 3) := by decide +kernel
theorem d_BM_search_30 : decode b_BM_search 30 = .ok (.aload_n 0, 1) := by decide +kernel
theorem d_BM_search_31 : decode b_BM_search 31 = .ok (.getfield 29, 3) := by decide +kernel
theorem d_BM_search_34 : decode b_BM_search 34 = .ok (.getfield 110, 3) := by decide +kernel
theorem d_BM_search_37 : decode b_BM_search 37 = .ok (.iconst (-1), 1) := by decide +kernel
theorem d_BM_search_38 : decode b_BM_search 38 = .ok (.if_icmp .eq 5, 3) := by decide +kernel
theorem d_BM_search_41 : decode b_BM_search 41 = .ok (.iconst 0, 1) := by decide +kernel
theorem d_BM_search_42 : decode b_BM_search 42 = .ok (.ireturn, 1) := by decide +kernel
theorem d_BM_search_43 : decode b_BM_search 43 = .ok (.aload_n 0, 1) := by decide +kernel
theorem d_BM_search_44 : decode b_BM_search 44 = .ok (.getfield 29, 3) := by decide +kernel
theorem d_BM_search_47 : decode b_BM_search 47 = .ok (.invokevirtual 113, 3) := by decide +kernel
theorem d_BM_search_50 : decode b_BM_search 50 = .ok (.ifCond .eq 7, 3) := by decide +kernel
theorem d_BM_search_53 : decode b_BM_search 53 = .ok (.iconst 1, 1) := by decide +kernel
theorem d_BM_search_54 : decode b_BM_search 54 = .ok (.goto 4, 3) := by decide +kernel
theorem d_BM_search_57 : decode b_BM_search 57 = .ok (.iconst 2, 1) := by decide +kernel
theorem d_BM_search_58 : decode b_BM_search 58 = .ok (.ireturn, 1) := by decide +kernel
theorem d_Arrs_fill_0 : decode b_Arrs_fill 0 = .ok (.iconst 0, 1) := by decide +kernel
theorem d_Arrs_fill_1 : decode b_Arrs_fill 1 = .ok (.istore_n 2, 1) := by decide +kernel
theorem d_Arrs_fill_2 : decode b_Arrs_fill 2 = .ok (.aload_n 0, 1) := by decide +kernel
theorem d_Arrs_fill_3 : decode b_Arrs_fill 3 = .ok (.arraylength, 1) := by decide +kernel
theorem d_Arrs_fill_4 : decode b_Arrs_fill 4 = .ok (.istore_n 3, 1) := by decide +kernel
theorem d_Arrs_fill_5 : decode b_Arrs_fill 5 = .ok (.iload_n 2, 1) := by decide +kernel
theorem d_Arrs_fill_6 : decode b_Arrs_fill 6 = .ok (.iload_n 3, 1) := by decide +kernel
theorem d_Arrs_fill_7 : decode b_Arrs_fill 7 = .ok (.if_icmp .ge 13, 3) := by decide +kernel
theorem d_Arrs_fill_10 : decode b_Arrs_fill 10 = .ok (.aload_n 0, 1) := by decide +kernel
theorem d_Arrs_fill_11 : decode b_Arrs_fill 11 = .ok (.iload_n 2, 1) := by decide +kernel
theorem d_Arrs_fill_12 : decode b_Arrs_fill 12 = .ok (.iload_n 1, 1) := by decide +kernel
theorem d_Arrs_fill_13 : decode b_Arrs_fill 13 = .ok (.iastore, 1) := by decide +kernel
theorem d_Arrs_fill_14 : decode b_Arrs_fill 14 = .ok (.iinc 2 1, 3) := by decide +kernel
theorem d_Arrs_fill_17 : decode b_Arrs_fill 17 = .ok (.goto (-12), 3) := by decide +kernel
theorem d_Arrs_fill_20 : decode b_Arrs_fill 20 = .ok (.return_, 1) := by decide +kernel
theorem d_BM_word_0 : decode b_BM_word 0 = .ok (.iload_n 1, 1) := by decide +kernel
theorem d_BM_word_1 : decode b_BM_word 1 = .ok (.ifCond .lt 14, 3) := by decide +kernel
theorem d_BM_word_4 : decode b_BM_word 4 = .ok (.iload_n 1, 1) := by decide +kernel
theorem d_BM_word_5 : decode b_BM_word 5 = .ok (.aload_n 0, 1) := by decide +kernel
theorem d_BM_word_6 : decode b_BM_word 6 = .ok (.getfield 29, 3) := by decide +kernel
theorem d_BM_word_9 : decode b_BM_word 9 = .ok (.getfield 110, 3) := by decide +kernel
theorem d_BM_word_12 : decode b_BM_word 12 = .ok (.if_icmp .lt 13, 3) := by decide +kernel
theorem d_BM_word_15 : decode b_BM_word 15 = .ok (.new 116, 3) := by decide +kernel
theorem d_BM_word_18 : decode b_BM_word 18 = .ok (.dup, 1) := by decide +kernel
theorem d_BM_word_19 : decode b_BM_word 19 = .ok (.ldc 118, 2) := by decide +kernel
theorem d_BM_word_21 : decode b_BM_word 21 = .ok (.invokespecial 120, 3) := by decide +kernel
theorem d_BM_word_24 : decode b_BM_word 24 = .ok (.athrow, 1) := by decide +kernel
theorem d_BM_word_25 : decode b_BM_word 25 = .ok (.aload_n 0, 1) := by decide +kernel
theorem d_BM_word_26 : decode b_BM_word 26 = .ok (.getfield 29, 3) := by decide +kernel
theorem d_BM_word_29 : decode b_BM_word 29 = .ok (.iload_n 1, 1) := by decide +kernel
theorem d_BM_word_30 : decode b_BM_word 30 = .ok (.invokevirtual 121, 3) := by decide +kernel
theorem d_BM_word_33 : decode b_BM_word 33 = .ok (.ireturn, 1) := by decide +kernel
theorem d_BM_level_0 : decode b_BM_level 0 = .ok (.iload_n 1, 1) := by decide +kernel
theorem d_BM_level_1 : decode b_BM_level 1 = .ok (.ifCond .lt 14, 3) := by decide +kernel
theorem d_BM_level_4 : decode b_BM_level 4 = .ok (.iload_n 1, 1) := by decide +kernel
theorem d_BM_level_5 : decode b_BM_level 5 = .ok (.aload_n 0, 1) := by decide +kernel
theorem d_BM_level_6 : decode b_BM_level 6 = .ok (.getfield 29, 3) := by decide +kernel
theorem d_BM_level_9 : decode b_BM_level 9 = .ok (.getfield 125, 3) := by decide +kernel
theorem d_BM_level_12 : decode b_BM_level 12 = .ok (.if_icmp .le 13, 3) := by decide +kernel
theorem d_BM_level_15 : decode b_BM_level 15 = .ok (.new 116, 3) := by decide +kernel
theorem d_BM_level_18 : decode b_BM_level 18 = .ok (.dup, 1) := by decide +kernel
theorem d_BM_level_19 : decode b_BM_level 19 = .ok (.ldc 131, 2) := by decide +kernel
theorem d_BM_level_21 : decode b_BM_level 21 = .ok (.invokespecial 120, 3) := by decide +kernel
theorem d_BM_level_24 : decode b_BM_level 24 = .ok (.athrow, 1) := by decide +kernel
theorem d_BM_level_25 : decode b_BM_level 25 = .ok (.aload_n 0, 1) := by decide +kernel
theorem d_BM_level_26 : decode b_BM_level 26 = .ok (.getfield 29, 3) := by decide +kernel
theorem d_BM_level_29 : decode b_BM_level 29 = .ok (.iload_n 1, 1) := by decide +kernel
theorem d_BM_level_30 : decode b_BM_level 30 = .ok (.invokevirtual 133, 3) := by decide +kernel
theorem d_BM_level_33 : decode b_BM_level 33 = .ok (.ireturn, 1) := by decide +kernel
theorem d_BM_truth_0 : decode b_BM_truth 0 = .ok (.aload_n 0, 1) := by decide +kernel
theorem d_BM_truth_1 : decode b_BM_truth 1 = .ok (.getfield 18, 3) := by decide +kernel
theorem d_BM_truth_4 : decode b_BM_truth 4 = .ok (.iload_n 1, 1) := by decide +kernel
theorem d_BM_truth_5 : decode b_BM_truth 5 = .ok (.invokevirtual 82, 3) := by decide +kernel
theorem d_BM_truth_8 : decode b_BM_truth 8 = .ok (.ifCond .ne 13, 3) := by decide +kernel
theorem d_BM_truth_11 : decode b_BM_truth 11 = .ok (.new 116, 3) := by decide +kernel
theorem d_BM_truth_14 : decode b_BM_truth 14 = .ok (.dup, 1) := by decide +kernel
theorem d_BM_truth_15 : decode b_BM_truth 15 = .ok (.ldc 142, 2) := by decide +kernel
theorem d_BM_truth_17 : decode b_BM_truth 17 = .ok (.invokespecial 120, 3) := by decide +kernel
theorem d_BM_truth_20 : decode b_BM_truth 20 = .ok (.athrow, 1) := by decide +kernel
theorem d_BM_truth_21 : decode b_BM_truth 21 = .ok (.aload_n 0, 1) := by decide +kernel
theorem d_BM_truth_22 : decode b_BM_truth 22 = .ok (.getfield 36, 3) := by decide +kernel
theorem d_BM_truth_25 : decode b_BM_truth 25 = .ok (.iload_n 1, 1) := by decide +kernel
theorem d_BM_truth_26 : decode b_BM_truth 26 = .ok (.invokevirtual 144, 3) := by decide +kernel
theorem d_BM_truth_29 : decode b_BM_truth 29 = .ok (.ireturn, 1) := by decide +kernel
end
section
-- ===== decode rows =====
theorem d_Law_cell_0 : decode b_Law_cell 0 = .ok (.iload_n 1, 1) := by decide +kernel
theorem d_Law_cell_1 : decode b_Law_cell 1 = .ok (.aload_n 0, 1) := by decide +kernel
theorem d_Law_cell_2 : decode b_Law_cell 2 = .ok (.arraylength, 1) := by decide +kernel
theorem d_Law_cell_3 : decode b_Law_cell 3 = .ok (.if_icmp .ge 9, 3) := by decide +kernel
theorem d_Law_cell_6 : decode b_Law_cell 6 = .ok (.aload_n 0, 1) := by decide +kernel
theorem d_Law_cell_7 : decode b_Law_cell 7 = .ok (.iload_n 1, 1) := by decide +kernel
theorem d_Law_cell_8 : decode b_Law_cell 8 = .ok (.iaload, 1) := by decide +kernel
theorem d_Law_cell_9 : decode b_Law_cell 9 = .ok (.goto 4, 3) := by decide +kernel
theorem d_Law_cell_12 : decode b_Law_cell 12 = .ok (.iconst 0, 1) := by decide +kernel
theorem d_Law_cell_13 : decode b_Law_cell 13 = .ok (.ireturn, 1) := by decide +kernel
theorem d_Law_state_0 : decode b_Law_state 0 = .ok (.aload_n 3, 1) := by decide +kernel
theorem d_Law_state_1 : decode b_Law_state 1 = .ok (.iconst 0, 1) := by decide +kernel
theorem d_Law_state_2 : decode b_Law_state 2 = .ok (.aload_n 0, 1) := by decide +kernel
theorem d_Law_state_3 : decode b_Law_state 3 = .ok (.iload_n 1, 1) := by decide +kernel
theorem d_Law_state_4 : decode b_Law_state 4 = .ok (.iload_n 2, 1) := by decide +kernel
theorem d_Law_state_5 : decode b_Law_state 5 = .ok (.invokevirtual 7, 3) := by decide +kernel
theorem d_Law_state_8 : decode b_Law_state 8 = .ok (.i2l, 1) := by decide +kernel
theorem d_Law_state_9 : decode b_Law_state 9 = .ok (.lastore, 1) := by decide +kernel
theorem d_Law_state_10 : decode b_Law_state 10 = .ok (.goto 11, 3) := by decide +kernel
theorem d_Law_state_13 : decode b_Law_state 13 = .ok (.astore 4, 2) := by decide +kernel
theorem d_Law_state_15 : decode b_Law_state 15 = .ok (.iconst 1, 1) := by decide +kernel
theorem d_Law_state_16 : decode b_Law_state 16 = .ok (.ireturn, 1) := by decide +kernel
theorem d_Law_state_17 : decode b_Law_state 17 = .ok (.astore 4, 2) := by decide +kernel
theorem d_Law_state_19 : decode b_Law_state 19 = .ok (.iconst 2, 1) := by decide +kernel
theorem d_Law_state_20 : decode b_Law_state 20 = .ok (.ireturn, 1) := by decide +kernel
theorem d_Law_state_21 : decode b_Law_state 21 = .ok (.iconst 0, 1) := by decide +kernel
theorem d_Law_state_22 : decode b_Law_state 22 = .ok (.ireturn, 1) := by decide +kernel
theorem d_Law_gate_0 : decode b_Law_gate 0 = .ok (.aload 4, 2) := by decide +kernel
theorem d_Law_gate_2 : decode b_Law_gate 2 = .ok (.iconst 0, 1) := by decide +kernel
theorem d_Law_gate_3 : decode b_Law_gate 3 = .ok (.aload_n 0, 1) := by decide +kernel
theorem d_Law_gate_4 : decode b_Law_gate 4 = .ok (.iload_n 1, 1) := by decide +kernel
theorem d_Law_gate_5 : decode b_Law_gate 5 = .ok (.iload_n 2, 1) := by decide +kernel
theorem d_Law_gate_6 : decode b_Law_gate 6 = .ok (.iload_n 3, 1) := by decide +kernel
theorem d_Law_gate_7 : decode b_Law_gate 7 = .ok (.invokevirtual 17, 3) := by decide +kernel
theorem d_Law_gate_10 : decode b_Law_gate 10 = .ok (.i2l, 1) := by decide +kernel
theorem d_Law_gate_11 : decode b_Law_gate 11 = .ok (.lastore, 1) := by decide +kernel
theorem d_Law_gate_12 : decode b_Law_gate 12 = .ok (.goto 11, 3) := by decide +kernel
theorem d_Law_gate_15 : decode b_Law_gate 15 = .ok (.astore 5, 2) := by decide +kernel
theorem d_Law_gate_17 : decode b_Law_gate 17 = .ok (.iconst 1, 1) := by decide +kernel
theorem d_Law_gate_18 : decode b_Law_gate 18 = .ok (.ireturn, 1) := by decide +kernel
theorem d_Law_gate_19 : decode b_Law_gate 19 = .ok (.astore 5, 2) := by decide +kernel
theorem d_Law_gate_21 : decode b_Law_gate 21 = .ok (.iconst 2, 1) := by decide +kernel
theorem d_Law_gate_22 : decode b_Law_gate 22 = .ok (.ireturn, 1) := by decide +kernel
theorem d_Law_gate_23 : decode b_Law_gate 23 = .ok (.iconst 0, 1) := by decide +kernel
theorem d_Law_gate_24 : decode b_Law_gate 24 = .ok (.ireturn, 1) := by decide +kernel
theorem d_Law_next_0 : decode b_Law_next 0 = .ok (.aload_n 3, 1) := by decide +kernel
theorem d_Law_next_1 : decode b_Law_next 1 = .ok (.iconst 0, 1) := by decide +kernel
theorem d_Law_next_2 : decode b_Law_next 2 = .ok (.aload_n 0, 1) := by decide +kernel
theorem d_Law_next_3 : decode b_Law_next 3 = .ok (.iload_n 1, 1) := by decide +kernel
theorem d_Law_next_4 : decode b_Law_next 4 = .ok (.iload_n 2, 1) := by decide +kernel
theorem d_Law_next_5 : decode b_Law_next 5 = .ok (.invokevirtual 21, 3) := by decide +kernel
theorem d_Law_next_8 : decode b_Law_next 8 = .ok (.i2l, 1) := by decide +kernel
theorem d_Law_next_9 : decode b_Law_next 9 = .ok (.lastore, 1) := by decide +kernel
theorem d_Law_next_10 : decode b_Law_next 10 = .ok (.goto 7, 3) := by decide +kernel
theorem d_Law_next_13 : decode b_Law_next 13 = .ok (.astore 4, 2) := by decide +kernel
theorem d_Law_next_15 : decode b_Law_next 15 = .ok (.iconst 1, 1) := by decide +kernel
theorem d_Law_next_16 : decode b_Law_next 16 = .ok (.ireturn, 1) := by decide +kernel
theorem d_Law_next_17 : decode b_Law_next 17 = .ok (.iconst 0, 1) := by decide +kernel
theorem d_Law_next_18 : decode b_Law_next 18 = .ok (.ireturn, 1) := by decide +kernel
theorem d_Law_compare_0 : decode b_Law_compare 0 = .ok (.aload_n 3, 1) := by decide +kernel
theorem d_Law_compare_1 : decode b_Law_compare 1 = .ok (.iconst 0, 1) := by decide +kernel
theorem d_Law_compare_2 : decode b_Law_compare 2 = .ok (.aload_n 0, 1) := by decide +kernel
theorem d_Law_compare_3 : decode b_Law_compare 3 = .ok (.iload_n 1, 1) := by decide +kernel
theorem d_Law_compare_4 : decode b_Law_compare 4 = .ok (.iload_n 2, 1) := by decide +kernel
theorem d_Law_compare_5 : decode b_Law_compare 5 = .ok (.invokevirtual 25, 3) := by decide +kernel
theorem d_Law_compare_8 : decode b_Law_compare 8 = .ok (.i2l, 1) := by decide +kernel
theorem d_Law_compare_9 : decode b_Law_compare 9 = .ok (.lastore, 1) := by decide +kernel
theorem d_Law_compare_10 : decode b_Law_compare 10 = .ok (.goto 11, 3) := by decide +kernel
theorem d_Law_compare_13 : decode b_Law_compare 13 = .ok (.astore 4, 2) := by decide +kernel
theorem d_Law_compare_15 : decode b_Law_compare 15 = .ok (.iconst 1, 1) := by decide +kernel
theorem d_Law_compare_16 : decode b_Law_compare 16 = .ok (.ireturn, 1) := by decide +kernel
theorem d_Law_compare_17 : decode b_Law_compare 17 = .ok (.astore 4, 2) := by decide +kernel
theorem d_Law_compare_19 : decode b_Law_compare 19 = .ok (.iconst 2, 1) := by decide +kernel
theorem d_Law_compare_20 : decode b_Law_compare 20 = .ok (.ireturn, 1) := by decide +kernel
theorem d_Law_compare_21 : decode b_Law_compare 21 = .ok (.iconst 0, 1) := by decide +kernel
theorem d_Law_compare_22 : decode b_Law_compare 22 = .ok (.ireturn, 1) := by decide +kernel
theorem d_Law_search_0 : decode b_Law_search 0 = .ok (.aload_n 2, 1) := by decide +kernel
theorem d_Law_search_1 : decode b_Law_search 1 = .ok (.iconst 0, 1) := by decide +kernel
theorem d_Law_search_2 : decode b_Law_search 2 = .ok (.aload_n 0, 1) := by decide +kernel
theorem d_Law_search_3 : decode b_Law_search 3 = .ok (.iload_n 1, 1) := by decide +kernel
theorem d_Law_search_4 : decode b_Law_search 4 = .ok (.invokevirtual 28, 3) := by decide +kernel
theorem d_Law_search_7 : decode b_Law_search 7 = .ok (.i2l, 1) := by decide +kernel
theorem d_Law_search_8 : decode b_Law_search 8 = .ok (.lastore, 1) := by decide +kernel
theorem d_Law_search_9 : decode b_Law_search 9 = .ok (.goto 6, 3) := by decide +kernel
theorem d_Law_search_12 : decode b_Law_search 12 = .ok (.astore_n 3, 1) := by decide +kernel
theorem d_Law_search_13 : decode b_Law_search 13 = .ok (.iconst 1, 1) := by decide +kernel
theorem d_Law_search_14 : decode b_Law_search 14 = .ok (.ireturn, 1) := by decide +kernel
theorem d_Law_search_15 : decode b_Law_search 15 = .ok (.iconst 0, 1) := by decide +kernel
theorem d_Law_search_16 : decode b_Law_search 16 = .ok (.ireturn, 1) := by decide +kernel
theorem d_Law_word_0 : decode b_Law_word 0 = .ok (.aload_n 2, 1) := by decide +kernel
theorem d_Law_word_1 : decode b_Law_word 1 = .ok (.iconst 0, 1) := by decide +kernel
theorem d_Law_word_2 : decode b_Law_word 2 = .ok (.aload_n 0, 1) := by decide +kernel
theorem d_Law_word_3 : decode b_Law_word 3 = .ok (.iload_n 1, 1) := by decide +kernel
theorem d_Law_word_4 : decode b_Law_word 4 = .ok (.invokevirtual 32, 3) := by decide +kernel
theorem d_Law_word_7 : decode b_Law_word 7 = .ok (.i2l, 1) := by decide +kernel
theorem d_Law_word_8 : decode b_Law_word 8 = .ok (.lastore, 1) := by decide +kernel
theorem d_Law_word_9 : decode b_Law_word 9 = .ok (.goto 6, 3) := by decide +kernel
theorem d_Law_word_12 : decode b_Law_word 12 = .ok (.astore_n 3, 1) := by decide +kernel
theorem d_Law_word_13 : decode b_Law_word 13 = .ok (.iconst 1, 1) := by decide +kernel
theorem d_Law_word_14 : decode b_Law_word 14 = .ok (.ireturn, 1) := by decide +kernel
theorem d_Law_word_15 : decode b_Law_word 15 = .ok (.iconst 0, 1) := by decide +kernel
theorem d_Law_word_16 : decode b_Law_word 16 = .ok (.ireturn, 1) := by decide +kernel
theorem d_Law_level_0 : decode b_Law_level 0 = .ok (.aload_n 2, 1) := by decide +kernel
theorem d_Law_level_1 : decode b_Law_level 1 = .ok (.iconst 0, 1) := by decide +kernel
theorem d_Law_level_2 : decode b_Law_level 2 = .ok (.aload_n 0, 1) := by decide +kernel
theorem d_Law_level_3 : decode b_Law_level 3 = .ok (.iload_n 1, 1) := by decide +kernel
theorem d_Law_level_4 : decode b_Law_level 4 = .ok (.invokevirtual 37, 3) := by decide +kernel
theorem d_Law_level_7 : decode b_Law_level 7 = .ok (.i2l, 1) := by decide +kernel
theorem d_Law_level_8 : decode b_Law_level 8 = .ok (.lastore, 1) := by decide +kernel
theorem d_Law_level_9 : decode b_Law_level 9 = .ok (.goto 6, 3) := by decide +kernel
theorem d_Law_level_12 : decode b_Law_level 12 = .ok (.astore_n 3, 1) := by decide +kernel
theorem d_Law_level_13 : decode b_Law_level 13 = .ok (.iconst 1, 1) := by decide +kernel
theorem d_Law_level_14 : decode b_Law_level 14 = .ok (.ireturn, 1) := by decide +kernel
theorem d_Law_level_15 : decode b_Law_level 15 = .ok (.iconst 0, 1) := by decide +kernel
theorem d_Law_level_16 : decode b_Law_level 16 = .ok (.ireturn, 1) := by decide +kernel
theorem d_Law_truth_0 : decode b_Law_truth 0 = .ok (.aload_n 2, 1) := by decide +kernel
theorem d_Law_truth_1 : decode b_Law_truth 1 = .ok (.iconst 0, 1) := by decide +kernel
theorem d_Law_truth_2 : decode b_Law_truth 2 = .ok (.aload_n 0, 1) := by decide +kernel
theorem d_Law_truth_3 : decode b_Law_truth 3 = .ok (.iload_n 1, 1) := by decide +kernel
theorem d_Law_truth_4 : decode b_Law_truth 4 = .ok (.invokevirtual 40, 3) := by decide +kernel
theorem d_Law_truth_7 : decode b_Law_truth 7 = .ok (.ifCond .eq 7, 3) := by decide +kernel
theorem d_Law_truth_10 : decode b_Law_truth 10 = .ok (.lconst 1, 1) := by decide +kernel
theorem d_Law_truth_11 : decode b_Law_truth 11 = .ok (.goto 4, 3) := by decide +kernel
theorem d_Law_truth_14 : decode b_Law_truth 14 = .ok (.lconst 0, 1) := by decide +kernel
theorem d_Law_truth_15 : decode b_Law_truth 15 = .ok (.lastore, 1) := by decide +kernel
theorem d_Law_truth_16 : decode b_Law_truth 16 = .ok (.goto 6, 3) := by decide +kernel
theorem d_Law_truth_19 : decode b_Law_truth 19 = .ok (.astore_n 3, 1) := by decide +kernel
theorem d_Law_truth_20 : decode b_Law_truth 20 = .ok (.iconst 1, 1) := by decide +kernel
theorem d_Law_truth_21 : decode b_Law_truth 21 = .ok (.ireturn, 1) := by decide +kernel
theorem d_Law_truth_22 : decode b_Law_truth 22 = .ok (.iconst 0, 1) := by decide +kernel
theorem d_Law_truth_23 : decode b_Law_truth 23 = .ok (.ireturn, 1) := by decide +kernel
end
section
-- ===== decode rows =====
theorem d_Law_law_0 : decode code 0 = .ok (.new 8, 3) := by decide +kernel
theorem d_Law_law_3 : decode code 3 = .ok (.dup, 1) := by decide +kernel
theorem d_Law_law_4 : decode code 4 = .ok (.aload_n 0, 1) := by decide +kernel
theorem d_Law_law_5 : decode code 5 = .ok (.iconst 0, 1) := by decide +kernel
theorem d_Law_law_6 : decode code 6 = .ok (.invokestatic 44, 3) := by decide +kernel
theorem d_Law_law_9 : decode code 9 = .ok (.invokespecial 50, 3) := by decide +kernel
theorem d_Law_law_12 : decode code 12 = .ok (.astore_n 1, 1) := by decide +kernel
theorem d_Law_law_13 : decode code 13 = .ok (.new 53, 3) := by decide +kernel
theorem d_Law_law_16 : decode code 16 = .ok (.dup, 1) := by decide +kernel
theorem d_Law_law_17 : decode code 17 = .ok (.aload_n 0, 1) := by decide +kernel
theorem d_Law_law_18 : decode code 18 = .ok (.iconst 0, 1) := by decide +kernel
theorem d_Law_law_19 : decode code 19 = .ok (.invokestatic 44, 3) := by decide +kernel
theorem d_Law_law_22 : decode code 22 = .ok (.invokespecial 55, 3) := by decide +kernel
theorem d_Law_law_25 : decode code 25 = .ok (.astore_n 2, 1) := by decide +kernel
theorem d_Law_law_26 : decode code 26 = .ok (.iconst 1, 1) := by decide +kernel
theorem d_Law_law_27 : decode code 27 = .ok (.newarray .long, 2) := by decide +kernel
theorem d_Law_law_29 : decode code 29 = .ok (.astore_n 3, 1) := by decide +kernel
theorem d_Law_law_30 : decode code 30 = .ok (.iconst 1, 1) := by decide +kernel
theorem d_Law_law_31 : decode code 31 = .ok (.istore 4, 2) := by decide +kernel
theorem d_Law_law_33 : decode code 33 = .ok (.iload 4, 2) := by decide +kernel
theorem d_Law_law_35 : decode code 35 = .ok (.aload_n 0, 1) := by decide +kernel
theorem d_Law_law_36 : decode code 36 = .ok (.arraylength, 1) := by decide +kernel
theorem d_Law_law_37 : decode code 37 = .ok (.iconst 4, 1) := by decide +kernel
theorem d_Law_law_38 : decode code 38 = .ok (.isub, 1) := by decide +kernel
theorem d_Law_law_39 : decode code 39 = .ok (.if_icmp .gt 735, 3) := by decide +kernel
theorem d_Law_law_42 : decode code 42 = .ok (.aload_n 0, 1) := by decide +kernel
theorem d_Law_law_43 : decode code 43 = .ok (.iload 4, 2) := by decide +kernel
theorem d_Law_law_45 : decode code 45 = .ok (.iaload, 1) := by decide +kernel
theorem d_Law_law_46 : decode code 46 = .ok (.bipush 15, 2) := by decide +kernel
theorem d_Law_law_48 : decode code 48 = .ok (.iand, 1) := by decide +kernel
theorem d_Law_law_49 : decode code 49 = .ok (.tableswitch 719 0 14 #[75, 159, 239, 307, 375, 431, 444, 500, 513, 526, 582, 593, 618, 681, 694], 75) := by decide +kernel
theorem d_Law_law_124 : decode code 124 = .ok (.aload_n 1, 1) := by decide +kernel
theorem d_Law_law_125 : decode code 125 = .ok (.aload_n 0, 1) := by decide +kernel
theorem d_Law_law_126 : decode code 126 = .ok (.iload 4, 2) := by decide +kernel
theorem d_Law_law_128 : decode code 128 = .ok (.iconst 1, 1) := by decide +kernel
theorem d_Law_law_129 : decode code 129 = .ok (.iadd, 1) := by decide +kernel
theorem d_Law_law_130 : decode code 130 = .ok (.iaload, 1) := by decide +kernel
theorem d_Law_law_131 : decode code 131 = .ok (.aload_n 0, 1) := by decide +kernel
theorem d_Law_law_132 : decode code 132 = .ok (.iload 4, 2) := by decide +kernel
theorem d_Law_law_134 : decode code 134 = .ok (.iconst 2, 1) := by decide +kernel
theorem d_Law_law_135 : decode code 135 = .ok (.iadd, 1) := by decide +kernel
theorem d_Law_law_136 : decode code 136 = .ok (.iaload, 1) := by decide +kernel
theorem d_Law_law_137 : decode code 137 = .ok (.ifCond .eq 7, 3) := by decide +kernel
theorem d_Law_law_140 : decode code 140 = .ok (.iconst 1, 1) := by decide +kernel
theorem d_Law_law_141 : decode code 141 = .ok (.goto 4, 3) := by decide +kernel
theorem d_Law_law_144 : decode code 144 = .ok (.iconst 0, 1) := by decide +kernel
theorem d_Law_law_145 : decode code 145 = .ok (.aload_n 3, 1) := by decide +kernel
theorem d_Law_law_146 : decode code 146 = .ok (.invokestatic 56, 3) := by decide +kernel
theorem d_Law_law_149 : decode code 149 = .ok (.istore 5, 2) := by decide +kernel
theorem d_Law_law_151 : decode code 151 = .ok (.aload_n 2, 1) := by decide +kernel
theorem d_Law_law_152 : decode code 152 = .ok (.aload_n 0, 1) := by decide +kernel
theorem d_Law_law_153 : decode code 153 = .ok (.iload 4, 2) := by decide +kernel
theorem d_Law_law_155 : decode code 155 = .ok (.iconst 1, 1) := by decide +kernel
theorem d_Law_law_156 : decode code 156 = .ok (.iadd, 1) := by decide +kernel
theorem d_Law_law_157 : decode code 157 = .ok (.iaload, 1) := by decide +kernel
theorem d_Law_law_158 : decode code 158 = .ok (.aload_n 0, 1) := by decide +kernel
theorem d_Law_law_159 : decode code 159 = .ok (.iload 4, 2) := by decide +kernel
theorem d_Law_law_161 : decode code 161 = .ok (.iconst 2, 1) := by decide +kernel
theorem d_Law_law_162 : decode code 162 = .ok (.iadd, 1) := by decide +kernel
theorem d_Law_law_163 : decode code 163 = .ok (.iaload, 1) := by decide +kernel
theorem d_Law_law_164 : decode code 164 = .ok (.ifCond .eq 7, 3) := by decide +kernel
theorem d_Law_law_167 : decode code 167 = .ok (.iconst 1, 1) := by decide +kernel
theorem d_Law_law_168 : decode code 168 = .ok (.goto 4, 3) := by decide +kernel
theorem d_Law_law_171 : decode code 171 = .ok (.iconst 0, 1) := by decide +kernel
theorem d_Law_law_172 : decode code 172 = .ok (.invokevirtual 59, 3) := by decide +kernel
theorem d_Law_law_175 : decode code 175 = .ok (.istore 6, 2) := by decide +kernel
theorem d_Law_law_177 : decode code 177 = .ok (.aload_n 2, 1) := by decide +kernel
theorem d_Law_law_178 : decode code 178 = .ok (.invokevirtual 60, 3) := by decide +kernel
theorem d_Law_law_181 : decode code 181 = .ok (.iload 5, 2) := by decide +kernel
theorem d_Law_law_183 : decode code 183 = .ok (.if_icmp .eq 5, 3) := by decide +kernel
theorem d_Law_law_186 : decode code 186 = .ok (.iconst 0, 1) := by decide +kernel
theorem d_Law_law_187 : decode code 187 = .ok (.ireturn, 1) := by decide +kernel
theorem d_Law_law_188 : decode code 188 = .ok (.iload 5, 2) := by decide +kernel
theorem d_Law_law_190 : decode code 190 = .ok (.ifCond .ne 15, 3) := by decide +kernel
theorem d_Law_law_193 : decode code 193 = .ok (.aload_n 3, 1) := by decide +kernel
theorem d_Law_law_194 : decode code 194 = .ok (.iconst 0, 1) := by decide +kernel
theorem d_Law_law_195 : decode code 195 = .ok (.laload, 1) := by decide +kernel
theorem d_Law_law_196 : decode code 196 = .ok (.iload 6, 2) := by decide +kernel
theorem d_Law_law_198 : decode code 198 = .ok (.i2l, 1) := by decide +kernel
theorem d_Law_law_199 : decode code 199 = .ok (.lcmp, 1) := by decide +kernel
theorem d_Law_law_200 : decode code 200 = .ok (.ifCond .eq 5, 3) := by decide +kernel
theorem d_Law_law_203 : decode code 203 = .ok (.iconst 0, 1) := by decide +kernel
theorem d_Law_law_204 : decode code 204 = .ok (.ireturn, 1) := by decide +kernel
theorem d_Law_law_205 : decode code 205 = .ok (.goto 563, 3) := by decide +kernel
theorem d_Law_law_208 : decode code 208 = .ok (.aload_n 1, 1) := by decide +kernel
theorem d_Law_law_209 : decode code 209 = .ok (.aload_n 0, 1) := by decide +kernel
theorem d_Law_law_210 : decode code 210 = .ok (.iload 4, 2) := by decide +kernel
theorem d_Law_law_212 : decode code 212 = .ok (.iconst 1, 1) := by decide +kernel
theorem d_Law_law_213 : decode code 213 = .ok (.iadd, 1) := by decide +kernel
theorem d_Law_law_214 : decode code 214 = .ok (.iaload, 1) := by decide +kernel
theorem d_Law_law_215 : decode code 215 = .ok (.aload_n 0, 1) := by decide +kernel
theorem d_Law_law_216 : decode code 216 = .ok (.iload 4, 2) := by decide +kernel
theorem d_Law_law_218 : decode code 218 = .ok (.iconst 2, 1) := by decide +kernel
theorem d_Law_law_219 : decode code 219 = .ok (.iadd, 1) := by decide +kernel
theorem d_Law_law_220 : decode code 220 = .ok (.iaload, 1) := by decide +kernel
theorem d_Law_law_221 : decode code 221 = .ok (.aload_n 0, 1) := by decide +kernel
theorem d_Law_law_222 : decode code 222 = .ok (.iload 4, 2) := by decide +kernel
theorem d_Law_law_224 : decode code 224 = .ok (.iconst 3, 1) := by decide +kernel
theorem d_Law_law_225 : decode code 225 = .ok (.iadd, 1) := by decide +kernel
theorem d_Law_law_226 : decode code 226 = .ok (.iaload, 1) := by decide +kernel
theorem d_Law_law_227 : decode code 227 = .ok (.aload_n 3, 1) := by decide +kernel
theorem d_Law_law_228 : decode code 228 = .ok (.invokestatic 64, 3) := by decide +kernel
theorem d_Law_law_231 : decode code 231 = .ok (.istore 5, 2) := by decide +kernel
theorem d_Law_law_233 : decode code 233 = .ok (.aload_n 2, 1) := by decide +kernel
theorem d_Law_law_234 : decode code 234 = .ok (.aload_n 0, 1) := by decide +kernel
theorem d_Law_law_235 : decode code 235 = .ok (.iload 4, 2) := by decide +kernel
theorem d_Law_law_237 : decode code 237 = .ok (.iconst 1, 1) := by decide +kernel
theorem d_Law_law_238 : decode code 238 = .ok (.iadd, 1) := by decide +kernel
theorem d_Law_law_239 : decode code 239 = .ok (.iaload, 1) := by decide +kernel
theorem d_Law_law_240 : decode code 240 = .ok (.aload_n 0, 1) := by decide +kernel
theorem d_Law_law_241 : decode code 241 = .ok (.iload 4, 2) := by decide +kernel
theorem d_Law_law_243 : decode code 243 = .ok (.iconst 2, 1) := by decide +kernel
theorem d_Law_law_244 : decode code 244 = .ok (.iadd, 1) := by decide +kernel
theorem d_Law_law_245 : decode code 245 = .ok (.iaload, 1) := by decide +kernel
theorem d_Law_law_246 : decode code 246 = .ok (.aload_n 0, 1) := by decide +kernel
theorem d_Law_law_247 : decode code 247 = .ok (.iload 4, 2) := by decide +kernel
theorem d_Law_law_249 : decode code 249 = .ok (.iconst 3, 1) := by decide +kernel
theorem d_Law_law_250 : decode code 250 = .ok (.iadd, 1) := by decide +kernel
theorem d_Law_law_251 : decode code 251 = .ok (.iaload, 1) := by decide +kernel
theorem d_Law_law_252 : decode code 252 = .ok (.invokevirtual 67, 3) := by decide +kernel
theorem d_Law_law_255 : decode code 255 = .ok (.istore 6, 2) := by decide +kernel
theorem d_Law_law_257 : decode code 257 = .ok (.aload_n 2, 1) := by decide +kernel
theorem d_Law_law_258 : decode code 258 = .ok (.invokevirtual 60, 3) := by decide +kernel
theorem d_Law_law_261 : decode code 261 = .ok (.iload 5, 2) := by decide +kernel
theorem d_Law_law_263 : decode code 263 = .ok (.if_icmp .eq 5, 3) := by decide +kernel
theorem d_Law_law_266 : decode code 266 = .ok (.iconst 0, 1) := by decide +kernel
theorem d_Law_law_267 : decode code 267 = .ok (.ireturn, 1) := by decide +kernel
theorem d_Law_law_268 : decode code 268 = .ok (.iload 5, 2) := by decide +kernel
theorem d_Law_law_270 : decode code 270 = .ok (.ifCond .ne 15, 3) := by decide +kernel
theorem d_Law_law_273 : decode code 273 = .ok (.aload_n 3, 1) := by decide +kernel
theorem d_Law_law_274 : decode code 274 = .ok (.iconst 0, 1) := by decide +kernel
theorem d_Law_law_275 : decode code 275 = .ok (.laload, 1) := by decide +kernel
theorem d_Law_law_276 : decode code 276 = .ok (.iload 6, 2) := by decide +kernel
theorem d_Law_law_278 : decode code 278 = .ok (.i2l, 1) := by decide +kernel
theorem d_Law_law_279 : decode code 279 = .ok (.lcmp, 1) := by decide +kernel
theorem d_Law_law_280 : decode code 280 = .ok (.ifCond .eq 5, 3) := by decide +kernel
theorem d_Law_law_283 : decode code 283 = .ok (.iconst 0, 1) := by decide +kernel
theorem d_Law_law_284 : decode code 284 = .ok (.ireturn, 1) := by decide +kernel
theorem d_Law_law_285 : decode code 285 = .ok (.goto 483, 3) := by decide +kernel
theorem d_Law_law_288 : decode code 288 = .ok (.aload_n 1, 1) := by decide +kernel
theorem d_Law_law_289 : decode code 289 = .ok (.aload_n 0, 1) := by decide +kernel
theorem d_Law_law_290 : decode code 290 = .ok (.iload 4, 2) := by decide +kernel
theorem d_Law_law_292 : decode code 292 = .ok (.iconst 1, 1) := by decide +kernel
theorem d_Law_law_293 : decode code 293 = .ok (.iadd, 1) := by decide +kernel
theorem d_Law_law_294 : decode code 294 = .ok (.iaload, 1) := by decide +kernel
theorem d_Law_law_295 : decode code 295 = .ok (.aload_n 0, 1) := by decide +kernel
theorem d_Law_law_296 : decode code 296 = .ok (.iload 4, 2) := by decide +kernel
theorem d_Law_law_298 : decode code 298 = .ok (.iconst 2, 1) := by decide +kernel
theorem d_Law_law_299 : decode code 299 = .ok (.iadd, 1) := by decide +kernel
theorem d_Law_law_300 : decode code 300 = .ok (.iaload, 1) := by decide +kernel
theorem d_Law_law_301 : decode code 301 = .ok (.aload_n 3, 1) := by decide +kernel
theorem d_Law_law_302 : decode code 302 = .ok (.invokestatic 68, 3) := by decide +kernel
theorem d_Law_law_305 : decode code 305 = .ok (.istore 5, 2) := by decide +kernel
theorem d_Law_law_307 : decode code 307 = .ok (.aload_n 2, 1) := by decide +kernel
theorem d_Law_law_308 : decode code 308 = .ok (.aload_n 0, 1) := by decide +kernel
theorem d_Law_law_309 : decode code 309 = .ok (.iload 4, 2) := by decide +kernel
theorem d_Law_law_311 : decode code 311 = .ok (.iconst 1, 1) := by decide +kernel
theorem d_Law_law_312 : decode code 312 = .ok (.iadd, 1) := by decide +kernel
theorem d_Law_law_313 : decode code 313 = .ok (.iaload, 1) := by decide +kernel
theorem d_Law_law_314 : decode code 314 = .ok (.aload_n 0, 1) := by decide +kernel
theorem d_Law_law_315 : decode code 315 = .ok (.iload 4, 2) := by decide +kernel
theorem d_Law_law_317 : decode code 317 = .ok (.iconst 2, 1) := by decide +kernel
theorem d_Law_law_318 : decode code 318 = .ok (.iadd, 1) := by decide +kernel
theorem d_Law_law_319 : decode code 319 = .ok (.iaload, 1) := by decide +kernel
theorem d_Law_law_320 : decode code 320 = .ok (.invokevirtual 71, 3) := by decide +kernel
theorem d_Law_law_323 : decode code 323 = .ok (.istore 6, 2) := by decide +kernel
theorem d_Law_law_325 : decode code 325 = .ok (.aload_n 2, 1) := by decide +kernel
theorem d_Law_law_326 : decode code 326 = .ok (.invokevirtual 60, 3) := by decide +kernel
theorem d_Law_law_329 : decode code 329 = .ok (.iload 5, 2) := by decide +kernel
theorem d_Law_law_331 : decode code 331 = .ok (.if_icmp .eq 5, 3) := by decide +kernel
theorem d_Law_law_334 : decode code 334 = .ok (.iconst 0, 1) := by decide +kernel
theorem d_Law_law_335 : decode code 335 = .ok (.ireturn, 1) := by decide +kernel
theorem d_Law_law_336 : decode code 336 = .ok (.iload 5, 2) := by decide +kernel
theorem d_Law_law_338 : decode code 338 = .ok (.ifCond .ne 15, 3) := by decide +kernel
theorem d_Law_law_341 : decode code 341 = .ok (.aload_n 3, 1) := by decide +kernel
theorem d_Law_law_342 : decode code 342 = .ok (.iconst 0, 1) := by decide +kernel
theorem d_Law_law_343 : decode code 343 = .ok (.laload, 1) := by decide +kernel
theorem d_Law_law_344 : decode code 344 = .ok (.iload 6, 2) := by decide +kernel
theorem d_Law_law_346 : decode code 346 = .ok (.i2l, 1) := by decide +kernel
theorem d_Law_law_347 : decode code 347 = .ok (.lcmp, 1) := by decide +kernel
theorem d_Law_law_348 : decode code 348 = .ok (.ifCond .eq 5, 3) := by decide +kernel
theorem d_Law_law_351 : decode code 351 = .ok (.iconst 0, 1) := by decide +kernel
theorem d_Law_law_352 : decode code 352 = .ok (.ireturn, 1) := by decide +kernel
theorem d_Law_law_353 : decode code 353 = .ok (.goto 415, 3) := by decide +kernel
theorem d_Law_law_356 : decode code 356 = .ok (.aload_n 1, 1) := by decide +kernel
theorem d_Law_law_357 : decode code 357 = .ok (.aload_n 0, 1) := by decide +kernel
theorem d_Law_law_358 : decode code 358 = .ok (.iload 4, 2) := by decide +kernel
theorem d_Law_law_360 : decode code 360 = .ok (.iconst 1, 1) := by decide +kernel
theorem d_Law_law_361 : decode code 361 = .ok (.iadd, 1) := by decide +kernel
theorem d_Law_law_362 : decode code 362 = .ok (.iaload, 1) := by decide +kernel
theorem d_Law_law_363 : decode code 363 = .ok (.aload_n 0, 1) := by decide +kernel
theorem d_Law_law_364 : decode code 364 = .ok (.iload 4, 2) := by decide +kernel
theorem d_Law_law_366 : decode code 366 = .ok (.iconst 2, 1) := by decide +kernel
theorem d_Law_law_367 : decode code 367 = .ok (.iadd, 1) := by decide +kernel
theorem d_Law_law_368 : decode code 368 = .ok (.iaload, 1) := by decide +kernel
theorem d_Law_law_369 : decode code 369 = .ok (.aload_n 3, 1) := by decide +kernel
theorem d_Law_law_370 : decode code 370 = .ok (.invokestatic 72, 3) := by decide +kernel
theorem d_Law_law_373 : decode code 373 = .ok (.istore 5, 2) := by decide +kernel
theorem d_Law_law_375 : decode code 375 = .ok (.aload_n 2, 1) := by decide +kernel
theorem d_Law_law_376 : decode code 376 = .ok (.aload_n 0, 1) := by decide +kernel
theorem d_Law_law_377 : decode code 377 = .ok (.iload 4, 2) := by decide +kernel
theorem d_Law_law_379 : decode code 379 = .ok (.iconst 1, 1) := by decide +kernel
theorem d_Law_law_380 : decode code 380 = .ok (.iadd, 1) := by decide +kernel
theorem d_Law_law_381 : decode code 381 = .ok (.iaload, 1) := by decide +kernel
theorem d_Law_law_382 : decode code 382 = .ok (.aload_n 0, 1) := by decide +kernel
theorem d_Law_law_383 : decode code 383 = .ok (.iload 4, 2) := by decide +kernel
theorem d_Law_law_385 : decode code 385 = .ok (.iconst 2, 1) := by decide +kernel
theorem d_Law_law_386 : decode code 386 = .ok (.iadd, 1) := by decide +kernel
theorem d_Law_law_387 : decode code 387 = .ok (.iaload, 1) := by decide +kernel
theorem d_Law_law_388 : decode code 388 = .ok (.invokevirtual 74, 3) := by decide +kernel
theorem d_Law_law_391 : decode code 391 = .ok (.istore 6, 2) := by decide +kernel
theorem d_Law_law_393 : decode code 393 = .ok (.aload_n 2, 1) := by decide +kernel
theorem d_Law_law_394 : decode code 394 = .ok (.invokevirtual 60, 3) := by decide +kernel
theorem d_Law_law_397 : decode code 397 = .ok (.iload 5, 2) := by decide +kernel
theorem d_Law_law_399 : decode code 399 = .ok (.if_icmp .eq 5, 3) := by decide +kernel
theorem d_Law_law_402 : decode code 402 = .ok (.iconst 0, 1) := by decide +kernel
theorem d_Law_law_403 : decode code 403 = .ok (.ireturn, 1) := by decide +kernel
theorem d_Law_law_404 : decode code 404 = .ok (.iload 5, 2) := by decide +kernel
theorem d_Law_law_406 : decode code 406 = .ok (.ifCond .ne 15, 3) := by decide +kernel
theorem d_Law_law_409 : decode code 409 = .ok (.aload_n 3, 1) := by decide +kernel
theorem d_Law_law_410 : decode code 410 = .ok (.iconst 0, 1) := by decide +kernel
theorem d_Law_law_411 : decode code 411 = .ok (.laload, 1) := by decide +kernel
theorem d_Law_law_412 : decode code 412 = .ok (.iload 6, 2) := by decide +kernel
theorem d_Law_law_414 : decode code 414 = .ok (.i2l, 1) := by decide +kernel
theorem d_Law_law_415 : decode code 415 = .ok (.lcmp, 1) := by decide +kernel
theorem d_Law_law_416 : decode code 416 = .ok (.ifCond .eq 5, 3) := by decide +kernel
theorem d_Law_law_419 : decode code 419 = .ok (.iconst 0, 1) := by decide +kernel
theorem d_Law_law_420 : decode code 420 = .ok (.ireturn, 1) := by decide +kernel
theorem d_Law_law_421 : decode code 421 = .ok (.goto 347, 3) := by decide +kernel
theorem d_Law_law_424 : decode code 424 = .ok (.aload_n 1, 1) := by decide +kernel
theorem d_Law_law_425 : decode code 425 = .ok (.aload_n 0, 1) := by decide +kernel
theorem d_Law_law_426 : decode code 426 = .ok (.iload 4, 2) := by decide +kernel
theorem d_Law_law_428 : decode code 428 = .ok (.iconst 1, 1) := by decide +kernel
theorem d_Law_law_429 : decode code 429 = .ok (.iadd, 1) := by decide +kernel
theorem d_Law_law_430 : decode code 430 = .ok (.iaload, 1) := by decide +kernel
theorem d_Law_law_431 : decode code 431 = .ok (.aload_n 3, 1) := by decide +kernel
theorem d_Law_law_432 : decode code 432 = .ok (.invokestatic 75, 3) := by decide +kernel
theorem d_Law_law_435 : decode code 435 = .ok (.istore 5, 2) := by decide +kernel
theorem d_Law_law_437 : decode code 437 = .ok (.aload_n 2, 1) := by decide +kernel
theorem d_Law_law_438 : decode code 438 = .ok (.aload_n 0, 1) := by decide +kernel
theorem d_Law_law_439 : decode code 439 = .ok (.iload 4, 2) := by decide +kernel
theorem d_Law_law_441 : decode code 441 = .ok (.iconst 1, 1) := by decide +kernel
theorem d_Law_law_442 : decode code 442 = .ok (.iadd, 1) := by decide +kernel
theorem d_Law_law_443 : decode code 443 = .ok (.iaload, 1) := by decide +kernel
theorem d_Law_law_444 : decode code 444 = .ok (.invokevirtual 78, 3) := by decide +kernel
theorem d_Law_law_447 : decode code 447 = .ok (.istore 6, 2) := by decide +kernel
theorem d_Law_law_449 : decode code 449 = .ok (.aload_n 2, 1) := by decide +kernel
theorem d_Law_law_450 : decode code 450 = .ok (.invokevirtual 60, 3) := by decide +kernel
theorem d_Law_law_453 : decode code 453 = .ok (.iload 5, 2) := by decide +kernel
theorem d_Law_law_455 : decode code 455 = .ok (.if_icmp .eq 5, 3) := by decide +kernel
theorem d_Law_law_458 : decode code 458 = .ok (.iconst 0, 1) := by decide +kernel
theorem d_Law_law_459 : decode code 459 = .ok (.ireturn, 1) := by decide +kernel
theorem d_Law_law_460 : decode code 460 = .ok (.iload 5, 2) := by decide +kernel
theorem d_Law_law_462 : decode code 462 = .ok (.ifCond .ne 15, 3) := by decide +kernel
theorem d_Law_law_465 : decode code 465 = .ok (.aload_n 3, 1) := by decide +kernel
theorem d_Law_law_466 : decode code 466 = .ok (.iconst 0, 1) := by decide +kernel
theorem d_Law_law_467 : decode code 467 = .ok (.laload, 1) := by decide +kernel
theorem d_Law_law_468 : decode code 468 = .ok (.iload 6, 2) := by decide +kernel
theorem d_Law_law_470 : decode code 470 = .ok (.i2l, 1) := by decide +kernel
theorem d_Law_law_471 : decode code 471 = .ok (.lcmp, 1) := by decide +kernel
theorem d_Law_law_472 : decode code 472 = .ok (.ifCond .eq 5, 3) := by decide +kernel
theorem d_Law_law_475 : decode code 475 = .ok (.iconst 0, 1) := by decide +kernel
theorem d_Law_law_476 : decode code 476 = .ok (.ireturn, 1) := by decide +kernel
theorem d_Law_law_477 : decode code 477 = .ok (.goto 291, 3) := by decide +kernel
theorem d_Law_law_480 : decode code 480 = .ok (.aload_n 1, 1) := by decide +kernel
theorem d_Law_law_481 : decode code 481 = .ok (.invokevirtual 79, 3) := by decide +kernel
theorem d_Law_law_484 : decode code 484 = .ok (.aload_n 2, 1) := by decide +kernel
theorem d_Law_law_485 : decode code 485 = .ok (.invokevirtual 82, 3) := by decide +kernel
theorem d_Law_law_488 : decode code 488 = .ok (.if_icmp .eq 280, 3) := by decide +kernel
theorem d_Law_law_491 : decode code 491 = .ok (.iconst 0, 1) := by decide +kernel
theorem d_Law_law_492 : decode code 492 = .ok (.ireturn, 1) := by decide +kernel
theorem d_Law_law_493 : decode code 493 = .ok (.aload_n 1, 1) := by decide +kernel
theorem d_Law_law_494 : decode code 494 = .ok (.aload_n 0, 1) := by decide +kernel
theorem d_Law_law_495 : decode code 495 = .ok (.iload 4, 2) := by decide +kernel
theorem d_Law_law_497 : decode code 497 = .ok (.iconst 1, 1) := by decide +kernel
theorem d_Law_law_498 : decode code 498 = .ok (.iadd, 1) := by decide +kernel
theorem d_Law_law_499 : decode code 499 = .ok (.iaload, 1) := by decide +kernel
theorem d_Law_law_500 : decode code 500 = .ok (.aload_n 3, 1) := by decide +kernel
theorem d_Law_law_501 : decode code 501 = .ok (.invokestatic 83, 3) := by decide +kernel
theorem d_Law_law_504 : decode code 504 = .ok (.istore 5, 2) := by decide +kernel
theorem d_Law_law_506 : decode code 506 = .ok (.aload_n 2, 1) := by decide +kernel
theorem d_Law_law_507 : decode code 507 = .ok (.aload_n 0, 1) := by decide +kernel
theorem d_Law_law_508 : decode code 508 = .ok (.iload 4, 2) := by decide +kernel
theorem d_Law_law_510 : decode code 510 = .ok (.iconst 1, 1) := by decide +kernel
theorem d_Law_law_511 : decode code 511 = .ok (.iadd, 1) := by decide +kernel
theorem d_Law_law_512 : decode code 512 = .ok (.iaload, 1) := by decide +kernel
theorem d_Law_law_513 : decode code 513 = .ok (.invokevirtual 85, 3) := by decide +kernel
theorem d_Law_law_516 : decode code 516 = .ok (.istore 6, 2) := by decide +kernel
theorem d_Law_law_518 : decode code 518 = .ok (.aload_n 2, 1) := by decide +kernel
theorem d_Law_law_519 : decode code 519 = .ok (.invokevirtual 60, 3) := by decide +kernel
theorem d_Law_law_522 : decode code 522 = .ok (.iload 5, 2) := by decide +kernel
theorem d_Law_law_524 : decode code 524 = .ok (.if_icmp .eq 5, 3) := by decide +kernel
theorem d_Law_law_527 : decode code 527 = .ok (.iconst 0, 1) := by decide +kernel
theorem d_Law_law_528 : decode code 528 = .ok (.ireturn, 1) := by decide +kernel
theorem d_Law_law_529 : decode code 529 = .ok (.iload 5, 2) := by decide +kernel
theorem d_Law_law_531 : decode code 531 = .ok (.ifCond .ne 15, 3) := by decide +kernel
theorem d_Law_law_534 : decode code 534 = .ok (.aload_n 3, 1) := by decide +kernel
theorem d_Law_law_535 : decode code 535 = .ok (.iconst 0, 1) := by decide +kernel
theorem d_Law_law_536 : decode code 536 = .ok (.laload, 1) := by decide +kernel
theorem d_Law_law_537 : decode code 537 = .ok (.iload 6, 2) := by decide +kernel
theorem d_Law_law_539 : decode code 539 = .ok (.i2l, 1) := by decide +kernel
theorem d_Law_law_540 : decode code 540 = .ok (.lcmp, 1) := by decide +kernel
theorem d_Law_law_541 : decode code 541 = .ok (.ifCond .eq 5, 3) := by decide +kernel
theorem d_Law_law_544 : decode code 544 = .ok (.iconst 0, 1) := by decide +kernel
theorem d_Law_law_545 : decode code 545 = .ok (.ireturn, 1) := by decide +kernel
theorem d_Law_law_546 : decode code 546 = .ok (.goto 222, 3) := by decide +kernel
theorem d_Law_law_549 : decode code 549 = .ok (.aload_n 1, 1) := by decide +kernel
theorem d_Law_law_550 : decode code 550 = .ok (.invokevirtual 86, 3) := by decide +kernel
theorem d_Law_law_553 : decode code 553 = .ok (.aload_n 2, 1) := by decide +kernel
theorem d_Law_law_554 : decode code 554 = .ok (.invokevirtual 89, 3) := by decide +kernel
theorem d_Law_law_557 : decode code 557 = .ok (.if_icmp .eq 211, 3) := by decide +kernel
theorem d_Law_law_560 : decode code 560 = .ok (.iconst 0, 1) := by decide +kernel
theorem d_Law_law_561 : decode code 561 = .ok (.ireturn, 1) := by decide +kernel
theorem d_Law_law_562 : decode code 562 = .ok (.aload_n 1, 1) := by decide +kernel
theorem d_Law_law_563 : decode code 563 = .ok (.invokevirtual 90, 3) := by decide +kernel
theorem d_Law_law_566 : decode code 566 = .ok (.aload_n 2, 1) := by decide +kernel
theorem d_Law_law_567 : decode code 567 = .ok (.invokevirtual 93, 3) := by decide +kernel
theorem d_Law_law_570 : decode code 570 = .ok (.if_icmp .eq 198, 3) := by decide +kernel
theorem d_Law_law_573 : decode code 573 = .ok (.iconst 0, 1) := by decide +kernel
theorem d_Law_law_574 : decode code 574 = .ok (.ireturn, 1) := by decide +kernel
theorem d_Law_law_575 : decode code 575 = .ok (.aload_n 1, 1) := by decide +kernel
theorem d_Law_law_576 : decode code 576 = .ok (.aload_n 0, 1) := by decide +kernel
theorem d_Law_law_577 : decode code 577 = .ok (.iload 4, 2) := by decide +kernel
theorem d_Law_law_579 : decode code 579 = .ok (.iconst 1, 1) := by decide +kernel
theorem d_Law_law_580 : decode code 580 = .ok (.iadd, 1) := by decide +kernel
theorem d_Law_law_581 : decode code 581 = .ok (.iaload, 1) := by decide +kernel
theorem d_Law_law_582 : decode code 582 = .ok (.aload_n 3, 1) := by decide +kernel
theorem d_Law_law_583 : decode code 583 = .ok (.invokestatic 94, 3) := by decide +kernel
theorem d_Law_law_586 : decode code 586 = .ok (.istore 5, 2) := by decide +kernel
theorem d_Law_law_588 : decode code 588 = .ok (.aload_n 2, 1) := by decide +kernel
theorem d_Law_law_589 : decode code 589 = .ok (.aload_n 0, 1) := by decide +kernel
theorem d_Law_law_590 : decode code 590 = .ok (.iload 4, 2) := by decide +kernel
theorem d_Law_law_592 : decode code 592 = .ok (.iconst 1, 1) := by decide +kernel
theorem d_Law_law_593 : decode code 593 = .ok (.iadd, 1) := by decide +kernel
theorem d_Law_law_594 : decode code 594 = .ok (.iaload, 1) := by decide +kernel
theorem d_Law_law_595 : decode code 595 = .ok (.invokevirtual 96, 3) := by decide +kernel
theorem d_Law_law_598 : decode code 598 = .ok (.istore 6, 2) := by decide +kernel
theorem d_Law_law_600 : decode code 600 = .ok (.aload_n 2, 1) := by decide +kernel
theorem d_Law_law_601 : decode code 601 = .ok (.invokevirtual 60, 3) := by decide +kernel
theorem d_Law_law_604 : decode code 604 = .ok (.iload 5, 2) := by decide +kernel
theorem d_Law_law_606 : decode code 606 = .ok (.if_icmp .eq 5, 3) := by decide +kernel
theorem d_Law_law_609 : decode code 609 = .ok (.iconst 0, 1) := by decide +kernel
theorem d_Law_law_610 : decode code 610 = .ok (.ireturn, 1) := by decide +kernel
theorem d_Law_law_611 : decode code 611 = .ok (.iload 5, 2) := by decide +kernel
theorem d_Law_law_613 : decode code 613 = .ok (.ifCond .ne 15, 3) := by decide +kernel
theorem d_Law_law_616 : decode code 616 = .ok (.aload_n 3, 1) := by decide +kernel
theorem d_Law_law_617 : decode code 617 = .ok (.iconst 0, 1) := by decide +kernel
theorem d_Law_law_618 : decode code 618 = .ok (.laload, 1) := by decide +kernel
theorem d_Law_law_619 : decode code 619 = .ok (.iload 6, 2) := by decide +kernel
theorem d_Law_law_621 : decode code 621 = .ok (.i2l, 1) := by decide +kernel
theorem d_Law_law_622 : decode code 622 = .ok (.lcmp, 1) := by decide +kernel
theorem d_Law_law_623 : decode code 623 = .ok (.ifCond .eq 5, 3) := by decide +kernel
theorem d_Law_law_626 : decode code 626 = .ok (.iconst 0, 1) := by decide +kernel
theorem d_Law_law_627 : decode code 627 = .ok (.ireturn, 1) := by decide +kernel
theorem d_Law_law_628 : decode code 628 = .ok (.goto 140, 3) := by decide +kernel
theorem d_Law_law_631 : decode code 631 = .ok (.aload_n 1, 1) := by decide +kernel
theorem d_Law_law_632 : decode code 632 = .ok (.invokevirtual 97, 3) := by decide +kernel
theorem d_Law_law_635 : decode code 635 = .ok (.aload_n 2, 1) := by decide +kernel
theorem d_Law_law_636 : decode code 636 = .ok (.invokevirtual 100, 3) := by decide +kernel
theorem d_Law_law_639 : decode code 639 = .ok (.goto 129, 3) := by decide +kernel
theorem d_Law_law_642 : decode code 642 = .ok (.aload_n 1, 1) := by decide +kernel
theorem d_Law_law_643 : decode code 643 = .ok (.aload_n 0, 1) := by decide +kernel
theorem d_Law_law_644 : decode code 644 = .ok (.iload 4, 2) := by decide +kernel
theorem d_Law_law_646 : decode code 646 = .ok (.iconst 1, 1) := by decide +kernel
theorem d_Law_law_647 : decode code 647 = .ok (.iadd, 1) := by decide +kernel
theorem d_Law_law_648 : decode code 648 = .ok (.iaload, 1) := by decide +kernel
theorem d_Law_law_649 : decode code 649 = .ok (.invokevirtual 101, 3) := by decide +kernel
theorem d_Law_law_652 : decode code 652 = .ok (.aload_n 2, 1) := by decide +kernel
theorem d_Law_law_653 : decode code 653 = .ok (.aload_n 0, 1) := by decide +kernel
theorem d_Law_law_654 : decode code 654 = .ok (.iload 4, 2) := by decide +kernel
theorem d_Law_law_656 : decode code 656 = .ok (.iconst 1, 1) := by decide +kernel
theorem d_Law_law_657 : decode code 657 = .ok (.iadd, 1) := by decide +kernel
theorem d_Law_law_658 : decode code 658 = .ok (.iaload, 1) := by decide +kernel
theorem d_Law_law_659 : decode code 659 = .ok (.invokevirtual 104, 3) := by decide +kernel
theorem d_Law_law_662 : decode code 662 = .ok (.if_icmp .eq 106, 3) := by decide +kernel
theorem d_Law_law_665 : decode code 665 = .ok (.iconst 0, 1) := by decide +kernel
theorem d_Law_law_666 : decode code 666 = .ok (.ireturn, 1) := by decide +kernel
theorem d_Law_law_667 : decode code 667 = .ok (.aload_n 1, 1) := by decide +kernel
theorem d_Law_law_668 : decode code 668 = .ok (.aload_n 0, 1) := by decide +kernel
theorem d_Law_law_669 : decode code 669 = .ok (.iload 4, 2) := by decide +kernel
theorem d_Law_law_671 : decode code 671 = .ok (.iconst 1, 1) := by decide +kernel
theorem d_Law_law_672 : decode code 672 = .ok (.iadd, 1) := by decide +kernel
theorem d_Law_law_673 : decode code 673 = .ok (.iaload, 1) := by decide +kernel
theorem d_Law_law_674 : decode code 674 = .ok (.aload_n 3, 1) := by decide +kernel
theorem d_Law_law_675 : decode code 675 = .ok (.invokestatic 105, 3) := by decide +kernel
theorem d_Law_law_678 : decode code 678 = .ok (.istore 5, 2) := by decide +kernel
theorem d_Law_law_680 : decode code 680 = .ok (.aload_n 2, 1) := by decide +kernel
theorem d_Law_law_681 : decode code 681 = .ok (.aload_n 0, 1) := by decide +kernel
theorem d_Law_law_682 : decode code 682 = .ok (.iload 4, 2) := by decide +kernel
theorem d_Law_law_684 : decode code 684 = .ok (.iconst 1, 1) := by decide +kernel
theorem d_Law_law_685 : decode code 685 = .ok (.iadd, 1) := by decide +kernel
theorem d_Law_law_686 : decode code 686 = .ok (.iaload, 1) := by decide +kernel
theorem d_Law_law_687 : decode code 687 = .ok (.invokevirtual 107, 3) := by decide +kernel
theorem d_Law_law_690 : decode code 690 = .ok (.istore 6, 2) := by decide +kernel
theorem d_Law_law_692 : decode code 692 = .ok (.aload_n 2, 1) := by decide +kernel
theorem d_Law_law_693 : decode code 693 = .ok (.invokevirtual 60, 3) := by decide +kernel
theorem d_Law_law_696 : decode code 696 = .ok (.iload 5, 2) := by decide +kernel
theorem d_Law_law_698 : decode code 698 = .ok (.if_icmp .eq 5, 3) := by decide +kernel
theorem d_Law_law_701 : decode code 701 = .ok (.iconst 0, 1) := by decide +kernel
theorem d_Law_law_702 : decode code 702 = .ok (.ireturn, 1) := by decide +kernel
theorem d_Law_law_703 : decode code 703 = .ok (.iload 5, 2) := by decide +kernel
theorem d_Law_law_705 : decode code 705 = .ok (.ifCond .ne 22, 3) := by decide +kernel
theorem d_Law_law_708 : decode code 708 = .ok (.aload_n 3, 1) := by decide +kernel
theorem d_Law_law_709 : decode code 709 = .ok (.iconst 0, 1) := by decide +kernel
theorem d_Law_law_710 : decode code 710 = .ok (.laload, 1) := by decide +kernel
theorem d_Law_law_711 : decode code 711 = .ok (.iload 6, 2) := by decide +kernel
theorem d_Law_law_713 : decode code 713 = .ok (.ifCond .eq 7, 3) := by decide +kernel
theorem d_Law_law_716 : decode code 716 = .ok (.lconst 1, 1) := by decide +kernel
theorem d_Law_law_717 : decode code 717 = .ok (.goto 4, 3) := by decide +kernel
theorem d_Law_law_720 : decode code 720 = .ok (.lconst 0, 1) := by decide +kernel
theorem d_Law_law_721 : decode code 721 = .ok (.lcmp, 1) := by decide +kernel
theorem d_Law_law_722 : decode code 722 = .ok (.ifCond .eq 5, 3) := by decide +kernel
theorem d_Law_law_725 : decode code 725 = .ok (.iconst 0, 1) := by decide +kernel
theorem d_Law_law_726 : decode code 726 = .ok (.ireturn, 1) := by decide +kernel
theorem d_Law_law_727 : decode code 727 = .ok (.goto 41, 3) := by decide +kernel
theorem d_Law_law_730 : decode code 730 = .ok (.aload_n 1, 1) := by decide +kernel
theorem d_Law_law_731 : decode code 731 = .ok (.invokevirtual 108, 3) := by decide +kernel
theorem d_Law_law_734 : decode code 734 = .ok (.aload_n 2, 1) := by decide +kernel
theorem d_Law_law_735 : decode code 735 = .ok (.invokevirtual 111, 3) := by decide +kernel
theorem d_Law_law_738 : decode code 738 = .ok (.if_icmp .eq 30, 3) := by decide +kernel
theorem d_Law_law_741 : decode code 741 = .ok (.iconst 0, 1) := by decide +kernel
theorem d_Law_law_742 : decode code 742 = .ok (.ireturn, 1) := by decide +kernel
theorem d_Law_law_743 : decode code 743 = .ok (.aload_n 1, 1) := by decide +kernel
theorem d_Law_law_744 : decode code 744 = .ok (.aload_n 0, 1) := by decide +kernel
theorem d_Law_law_745 : decode code 745 = .ok (.iload 4, 2) := by decide +kernel
theorem d_Law_law_747 : decode code 747 = .ok (.iconst 1, 1) := by decide +kernel
theorem d_Law_law_748 : decode code 748 = .ok (.iadd, 1) := by decide +kernel
theorem d_Law_law_749 : decode code 749 = .ok (.iaload, 1) := by decide +kernel
theorem d_Law_law_750 : decode code 750 = .ok (.invokevirtual 112, 3) := by decide +kernel
theorem d_Law_law_753 : decode code 753 = .ok (.aload_n 2, 1) := by decide +kernel
theorem d_Law_law_754 : decode code 754 = .ok (.aload_n 0, 1) := by decide +kernel
theorem d_Law_law_755 : decode code 755 = .ok (.iload 4, 2) := by decide +kernel
theorem d_Law_law_757 : decode code 757 = .ok (.iconst 1, 1) := by decide +kernel
theorem d_Law_law_758 : decode code 758 = .ok (.iadd, 1) := by decide +kernel
theorem d_Law_law_759 : decode code 759 = .ok (.iaload, 1) := by decide +kernel
theorem d_Law_law_760 : decode code 760 = .ok (.invokevirtual 115, 3) := by decide +kernel
theorem d_Law_law_763 : decode code 763 = .ok (.if_icmp .eq 5, 3) := by decide +kernel
theorem d_Law_law_766 : decode code 766 = .ok (.iconst 0, 1) := by decide +kernel
theorem d_Law_law_767 : decode code 767 = .ok (.ireturn, 1) := by decide +kernel
theorem d_Law_law_768 : decode code 768 = .ok (.iinc 4 4, 3) := by decide +kernel
theorem d_Law_law_771 : decode code 771 = .ok (.goto (-738), 3) := by decide +kernel
theorem d_Law_law_774 : decode code 774 = .ok (.iconst 1, 1) := by decide +kernel
theorem d_Law_law_775 : decode code 775 = .ok (.ireturn, 1) := by decide +kernel
end
section
-- the rows bt .. b_sshr, nx_and, nx_xor began as kit/laws/BITS.to-paste.lean.txt
def bt (x : Int32) (i : Nat) : Bool := x.toBitVec.getLsbD i
theorem b_ext {x y : Int32} (h : ∀ i, i < 32 → bt x i = bt y i) : x = y := Int32.toBitVec_inj.mp (BitVec.eq_of_getLsbD_eq (fun i hi => h i hi))
theorem b_or (x y : Int32) (i : Nat) : bt (x ||| y) i = (bt x i || bt y i) := by unfold bt; rw [Int32.toBitVec_or, BitVec.getLsbD_or]
theorem b_and (x y : Int32) (i : Nat) : bt (x &&& y) i = (bt x i && bt y i) := by unfold bt; rw [Int32.toBitVec_and, BitVec.getLsbD_and]
theorem b_xor (x y : Int32) (i : Nat) : bt (x ^^^ y) i = (bt x i ^^ bt y i) := by unfold bt; rw [Int32.toBitVec_xor, BitVec.getLsbD_xor]
theorem b_big {x : Int32} {i : Nat} (h : 32 ≤ i) : bt x i = false := BitVec.getLsbD_of_ge _ _ h
theorem b_255 (i : Nat) : bt 255 i = decide (i < 8) := by
  rcases Nat.lt_or_ge i 32 with h | h
  · exact (by decide +kernel : ∀ i, i < 32 → bt 255 i = decide (i < 8)) i h
  · rw [b_big h, decide_eq_false (by omega)]
theorem b_65535 (i : Nat) : bt 65535 i = decide (i < 16) := by
  rcases Nat.lt_or_ge i 32 with h | h
  · exact (by decide +kernel : ∀ i, i < 32 → bt 65535 i = decide (i < 16)) i h
  · rw [b_big h, decide_eq_false (by omega)]
theorem b_m1 : ∀ i, i < 32 → bt (-1) i = true := by decide +kernel
theorem b_0 (i : Nat) : bt 0 i = false := BitVec.getLsbD_zero
theorem s_l : ∀ n, n < 32 → ((nI n &&& 31).toBitVec.smod 32).toNat = n := by decide +kernel
theorem s_u : ∀ n, n < 32 → (((nI n).toUInt32 &&& Int32.toUInt32 31).toBitVec % 32).toNat = n := by decide +kernel
theorem b_shl (n : Nat) (hn : n < 32) (x : Int32) {i : Nat} (hi : i < 32) : bt (x <<< (nI n &&& 31)) i = (decide (n ≤ i) && bt x (i - n)) := by
  unfold bt
  rw [Int32.toBitVec_shiftLeft]
  show (x.toBitVec <<< ((nI n &&& 31).toBitVec.smod 32).toNat).getLsbD i = _
  rw [s_l n hn, BitVec.getLsbD_shiftLeft]
  rcases Nat.lt_or_ge i n with h | h
  · simp [h, Nat.not_le.mpr h]
  · simp [hi, h, Nat.not_lt.mpr h]
theorem b_ushr (n : Nat) (hn : n < 32) (x : Int32) (i : Nat) : bt ((x.toUInt32 >>> ((nI n).toUInt32 &&& Int32.toUInt32 31)).toInt32) i = bt x (n + i) := by
  show (x.toUInt32 >>> ((nI n).toUInt32 &&& Int32.toUInt32 31)).toBitVec.getLsbD i = x.toUInt32.toBitVec.getLsbD (n + i)
  rw [UInt32.toBitVec_shiftRight]
  show (x.toUInt32.toBitVec >>> (((nI n).toUInt32 &&& Int32.toUInt32 31).toBitVec % 32).toNat).getLsbD i = _
  rw [s_u n hn, BitVec.getLsbD_ushiftRight]
theorem b_sshr (n : Nat) (hn : n < 32) (x : Int32) {i : Nat} (hi : i < 32) : bt (x >>> (nI n &&& 31)) i = if n + i < 32 then bt x (n + i) else bt x 31 := by
  unfold bt
  rw [Int32.toBitVec_shiftRight]
  show (x.toBitVec.sshiftRight ((nI n &&& 31).toBitVec.smod 32).toNat).getLsbD i = _
  rw [s_l n hn, BitVec.getLsbD_sshiftRight, BitVec.msb_eq_getLsbD_last]
  simp [hi]
theorem nx_and (a b : Nat) : nI a &&& nI b = nI (a &&& b) := by
  apply Int32.toBitVec_inj.1
  show BitVec.ofNat 32 a &&& BitVec.ofNat 32 b = BitVec.ofNat 32 (a &&& b)
  apply BitVec.eq_of_getLsbD_eq
  intro i hi
  simp [hi]
theorem nx_xor (a b : Nat) : nI a ^^^ nI b = nI (a ^^^ b) := by
  apply Int32.toBitVec_inj.1
  show BitVec.ofNat 32 a ^^^ BitVec.ofNat 32 b = BitVec.ofNat 32 (a ^^^ b)
  apply BitVec.eq_of_getLsbD_eq
  intro i hi
  simp [hi]

-- ===== our own rows on bits =====
theorem bn_bt (a : Nat) {i : Nat} (hi : i < 32) : bt (nI a) i = a.testBit i := by
  show (BitVec.ofNat 32 a).getLsbD i = _
  rw [BitVec.getLsbD_ofNat]
  simp [hi]
theorem bn_or (a b : Nat) : nI a ||| nI b = nI (a ||| b) := by
  apply b_ext
  intro i hi
  rw [b_or, bn_bt a hi, bn_bt b hi, bn_bt _ hi, Nat.testBit_or]
theorem bn_bit (x : Int32) (w : Nat) (hw : w < 32) : (x >>> (nI w &&& 31)) &&& nI 1 = nI (if bt x w then 1 else 0) := by
  apply b_ext
  intro i hi
  rw [b_and, b_sshr w hw x hi, bn_bt 1 hi, bn_bt _ hi]
  rcases Nat.eq_zero_or_pos i with h | h
  · subst h
    rw [if_pos (by omega)]
    cases h9 : bt x w <;> simp [h9]
  · have h2 : 1 < 2 ^ i := Nat.one_lt_two_pow (by omega)
    rw [Nat.testBit_lt_two_pow (x := 1) h2, Bool.and_false]
    symm
    apply Nat.testBit_lt_two_pow
    split <;> omega
theorem bn_bitN (r k : Nat) (hk : k < 32) : (nI r >>> (nI k &&& 31)) &&& nI 1 = nI (if r.testBit k then 1 else 0) := by
  rw [bn_bit (nI r) k hk, bn_bt r hk]
theorem bn_addor {r k : Nat} (h : r < 2 ^ k) : r ||| 2 ^ k = r + 2 ^ k := by
  have h1 := Nat.two_pow_add_eq_or_of_lt h 1
  rw [Nat.mul_one] at h1
  rw [Nat.add_comm, h1, Nat.or_comm]
theorem bn_put (r s : Nat) (b : Bool) (hs : s < 31) (hr : r < 2 ^ s) : nI r ||| (nI (if b then 1 else 0) <<< (nI s &&& 31)) = nI (r + (if b then 2 ^ s else 0)) := by
  have hp : 2 ^ s < 2 ^ 32 := Nat.pow_lt_pow_right (by decide) (by omega)
  cases b with
  | false =>
    rw [if_neg (by decide), if_neg (by decide), pk_shlN _ s (s_l s (by omega)) (by rw [Nat.zero_mul]; decide), bn_or, Nat.zero_mul, Nat.or_zero, Nat.add_zero]
  | true =>
    rw [if_pos rfl, if_pos rfl, pk_shlN _ s (s_l s (by omega)) (by rw [Nat.one_mul]; exact hp), bn_or, Nat.one_mul, bn_addor hr]
/-- a row of bits as a number -/
def bn_row (f : Nat → Bool) : Nat → Nat
  | 0 => 0
  | k + 1 => bn_row f k + (if f k then 2 ^ k else 0)
theorem bn_row_lt (f : Nat → Bool) : ∀ n, bn_row f n < 2 ^ n
  | 0 => by simp [bn_row]
  | n + 1 => by
    have h := bn_row_lt f n
    have h2 : 2 ^ (n + 1) = 2 ^ n + 2 ^ n := by rw [Nat.pow_succ]; omega
    show bn_row f n + (if f n then 2 ^ n else 0) < 2 ^ (n + 1)
    split <;> omega
theorem bn_row_bit (f : Nat → Bool) (i : Nat) : ∀ n, (bn_row f n).testBit i = (decide (i < n) && f i)
  | 0 => by simp [bn_row]
  | n + 1 => by
    have h := bn_row_bit f i n
    have hl := bn_row_lt f n
    show (bn_row f n + (if f n then 2 ^ n else 0)).testBit i = _
    by_cases hf : f n = true
    · rw [if_pos hf, ← bn_addor hl, Nat.testBit_or, h, Nat.testBit_two_pow]
      by_cases hi : i = n
      · subst hi
        simp [hf]
      · have e1 : decide (n = i) = false := decide_eq_false (fun q => hi q.symm)
        have e2 : decide (i < n + 1) = decide (i < n) := by
          by_cases q : i < n
          · rw [decide_eq_true q, decide_eq_true (by omega)]
          · rw [decide_eq_false q, decide_eq_false (by omega)]
        rw [e1, e2, Bool.or_false]
    · rw [if_neg hf, Nat.add_zero, h]
      by_cases hi : i = n
      · subst hi
        have hf2 : f i = false := by simpa using hf
        simp [hf2]
      · have e2 : decide (i < n + 1) = decide (i < n) := by
          by_cases q : i < n
          · rw [decide_eq_true q, decide_eq_true (by omega)]
          · rw [decide_eq_false q, decide_eq_false (by omega)]
        rw [e2]
theorem bn_row_ext {f g : Nat → Bool} : ∀ n, (∀ i, i < n → f i = g i) → bn_row f n = bn_row g n
  | 0, _ => rfl
  | n + 1, h => by
    show bn_row f n + (if f n then 2 ^ n else 0) = bn_row g n + (if g n then 2 ^ n else 0)
    rw [bn_row_ext n (fun i hi => h i (by omega)), h n (by omega)]
theorem bn_row_of {r n : Nat} (h : r < 2 ^ n) : bn_row (fun i => r.testBit i) n = r := by
  apply Nat.eq_of_testBit_eq
  intro i
  rw [bn_row_bit]
  by_cases hi : i < n
  · simp [hi]
  · rw [Nat.testBit_lt_two_pow (Nat.lt_of_lt_of_le h (Nat.pow_le_pow_right (by decide) (by omega)))]
    simp [hi]
theorem bn_sh1 (j : Nat) (hj : j < 32) {i : Nat} (hi : i < 32) : bt (nI 1 <<< (nI j &&& 31)) i = decide (i = j) := by
  rw [b_shl j hj _ hi, bn_bt 1 (by omega)]
  by_cases h : i = j
  · subst h
    simp
  · by_cases h2 : j ≤ i
    · have h3 : 1 < 2 ^ (i - j) := Nat.one_lt_two_pow (by omega)
      rw [Nat.testBit_lt_two_pow h3]
      simp [h]
    · simp [h, h2]
theorem bn_tst (x : Int32) (j : Nat) (hj : j < 32) : x &&& (nI 1 <<< (nI j &&& 31)) = 0 ↔ bt x j = false := by
  constructor
  · intro h
    have h1 := congrArg (fun z => bt z j) h
    simp only [b_and, b_0, bn_sh1 j hj hj] at h1
    simpa using h1
  · intro h
    apply b_ext
    intro i hi
    rw [b_and, b_0, bn_sh1 j hj hi]
    by_cases q : i = j
    · subst q
      simp [h]
    · simp [q]
theorem bn_set (x : Int32) (j : Nat) (hj : j < 32) {i : Nat} (hi : i < 32) : bt (x ||| (nI 1 <<< (nI j &&& 31))) i = (bt x i || decide (i = j)) := by
  rw [b_or, bn_sh1 j hj hi]
/-- a set of numbers, as bits of an array of ints -/
def bn_in (kn : Nat → Int32) (r : Nat) : Bool := bt (kn (r / 32)) (r % 32)
theorem bn_in_put (kn : Nat → Int32) (r q : Nat) : bn_in (upd kn (r / 32) (kn (r / 32) ||| (nI 1 <<< (nI (r % 32) &&& 31)))) q = (bn_in kn q || decide (q = r)) := by
  unfold bn_in
  by_cases h : q / 32 = r / 32
  · rw [h, pk_us, bn_set _ (r % 32) (by omega) (by omega)]
    congr 1
    apply decide_eq_decide.mpr
    omega
  · rw [pk_un h]
    have : ¬ q = r := fun e => h (by rw [e])
    simp [this]
theorem bn_mask (r : Nat) : nI r &&& nI 31 = nI (r % 32) := by
  rw [nx_and]
  exact congrArg nI (Nat.and_two_pow_sub_one_eq_mod r 5)
theorem bn_shr5 {r : Nat} (h : r < 2147483648) : nI r >>> (nI 5 &&& 31) = nI (r / 32) := pk_shrN (by omega) _ 5 (s_l 5 (by decide))
theorem bn_1shl {k : Nat} (h : k < 32) : nI 1 <<< (nI k &&& 31) = nI (2 ^ k) := by
  rw [pk_shlN (n := 1) _ k (s_l k h) (by rw [Nat.one_mul]; exact Nat.pow_lt_pow_right (by decide) h), Nat.one_mul]
/-- whether some of the first k -/
def bn_any (f : Nat → Bool) : Nat → Bool
  | 0 => false
  | k + 1 => bn_any f k || f k
theorem bn_any_iff (f : Nat → Bool) : ∀ n, bn_any f n = true ↔ ∃ i, i < n ∧ f i = true
  | 0 => ⟨(fun h => by cases h), (fun ⟨i, h, _⟩ => absurd h (Nat.not_lt_zero i))⟩
  | n + 1 => by
    show (bn_any f n || f n) = true ↔ _
    rw [Bool.or_eq_true, bn_any_iff f n]
    constructor
    · rintro (⟨i, h1, h2⟩ | h)
      · exact ⟨i, by omega, h2⟩
      · exact ⟨n, by omega, h⟩
    · rintro ⟨i, h1, h2⟩
      by_cases q : i = n
      · subst q
        exact Or.inr h2
      · exact Or.inl ⟨i, by omega, h2⟩
theorem bn_any_ext {f g : Nat → Bool} : ∀ n, (∀ i, i < n → f i = g i) → bn_any f n = bn_any g n
  | 0, _ => rfl
  | n + 1, h => by
    show (bn_any f n || f n) = (bn_any g n || g n)
    rw [bn_any_ext n (fun i hi => h i (by omega)), h n (by omega)]
theorem bn_upN (f : Nat → Nat) (k v : Nat) : upd (fun j => nI (f j)) k (nI v) = fun j => nI (va_up f k v j) := by
  funext j
  by_cases h : j = k
  · subst h
    rw [pk_us, va_up_self]
  · rw [pk_un h, va_up_ne _ _ h]
end
section
-- ===== truths as ints =====
def bz (b : Bool) : Int32 := nI (if b then 1 else 0)
theorem bz_0 (b : Bool) : bz b = 0 ↔ b = false := by cases b <;> decide
theorem bz_n0 (b : Bool) : ¬ bz b = 0 ↔ b = true := by cases b <;> decide
theorem bz_nar (b : Bool) : narrow .boolean (.int (bz b)) = .int (bz b) := by cases b <;> rfl
theorem bz_t : nI 1 = bz true := rfl
theorem bz_f : nI 0 = bz false := rfl
theorem bz_eq1 {b : Bool} (h : b = true) : nI 1 = bz b := by rw [h]; rfl
theorem bz_eq0 {b : Bool} (h : b = false) : nI 0 = bz b := by rw [h]; rfl
theorem bz_vp (b : Bool) : vp_nar .boolean (bz b) = bz b := by cases b <;> rfl
theorem bz_fit (b : Bool) : fits .boolean (.int (bz b)) = true := by cases b <;> rfl
theorem bz_inj {a b : Bool} (h : bz a = bz b) : a = b := by cases a <;> cases b <;> first | rfl | (revert h; decide)
theorem bn_upB (f : Nat → Bool) (k : Nat) (b : Bool) : upd (fun j => bz (f j)) k (bz b) = fun j => bz (va_up f k b j) := by
  funext j
  by_cases h : j = k
  · subst h
    rw [pk_us, va_up_self]
  · rw [pk_un h, va_up_ne _ _ h]
theorem bn_row_t {f : Nat → Bool} {k : Nat} (hf : f k = true) (hk : k < 31) : nI (bn_row f k) ||| (nI 1 <<< (nI k &&& 31)) = nI (bn_row f (k + 1)) := by
  have h := bn_put (bn_row f k) k true hk (bn_row_lt f k)
  rw [if_pos rfl, if_pos rfl] at h
  rw [h]
  show _ = nI (bn_row f k + (if f k then 2 ^ k else 0))
  rw [if_pos hf]
theorem bn_row_f {f : Nat → Bool} {k : Nat} (hf : f k = false) : nI (bn_row f k) ||| nI 0 = nI (bn_row f (k + 1)) := by
  rw [bn_or, Nat.or_zero]
  show _ = nI (bn_row f k + (if f k then 2 ^ k else 0))
  rw [if_neg (by rw [hf]; decide), Nat.add_zero]
end
section
-- ===== the machines, as the document has them =====
/-- a node's truth by its kind, the nodes before it, the states and the word -/
def bm_gate (kd l r : Nat) (f : Nat → Bool) (st : Nat → Bool) (w : Nat) : Bool :=
  if kd = 0 then (f l && f r) else if kd = 1 then (f l || f r) else if kd = 2 then (f l ^^ f r) else if kd = 3 then !(f l) else if kd = 4 then false else if kd = 5 then true else if kd = 6 then w.testBit l else st l
/-- the truths of the first k nodes -/
def bm_vals (kd lf rt : Nat → Nat) (st : Nat → Bool) (w : Nat) : Nat → Nat → Bool
  | 0 => fun _ => false
  | k + 1 => va_up (bm_vals kd lf rt st w k) k (bm_gate (kd k) (lf k) (rt k) (bm_vals kd lf rt st w k) st w)
theorem bm_vals_new (kd lf rt : Nat → Nat) (st : Nat → Bool) (w k : Nat) : bm_vals kd lf rt st w (k + 1) k = bm_gate (kd k) (lf k) (rt k) (bm_vals kd lf rt st w k) st w := va_up_self _ _ _
theorem bm_vals_old (kd lf rt : Nat → Nat) (st : Nat → Bool) (w k : Nat) {j : Nat} (h : j < k) : bm_vals kd lf rt st w (k + 1) j = bm_vals kd lf rt st w k j := va_up_ne _ _ (by omega)
theorem bm_vals_st (kd lf rt : Nat → Nat) (st : Nat → Bool) (w : Nat) {j k : Nat} (h : j < k) : ∀ n, k ≤ n → bm_vals kd lf rt st w n j = bm_vals kd lf rt st w k j
  | 0, h2 => by omega
  | n + 1, h2 => by
    by_cases q : k = n + 1
    · rw [q]
    · rw [bm_vals_old kd lf rt st w n (by omega), bm_vals_st kd lf rt st w h n (by omega)]
/-- what was told so far hangs together: B word bits, n nodes, sc states -/
def bm_wf (B n sc : Nat) (kd lf rt : Nat → Nat) : Prop := (1 ≤ B ∧ B ≤ 4 ∧ B ≤ n ∧ n ≤ 100 ∧ sc ≤ 14) ∧ ∀ k, k < n → kd k ≤ 7 ∧ (kd k ≤ 3 → lf k < k) ∧ (kd k ≤ 2 → rt k < k) ∧ (kd k = 6 → lf k < B) ∧ (kd k = 7 → lf k < sc)
/-- the lanes hold the truths of the first k nodes under all sixteen words -/
def bm_ln (kd lf rt : Nat → Nat) (r : Nat) (ln : Nat → Int32) (k : Nat) : Prop := ∀ j, j < k → ∀ w, w < 16 → bt (ln j) w = bm_vals kd lf rt (fun s => r.testBit s) w k j
theorem bm_ln_0 (kd lf rt : Nat → Nat) (r : Nat) (ln : Nat → Int32) : bm_ln kd lf rt r ln 0 := fun j h => absurd h (Nat.not_lt_zero j)
theorem bm_ln_up {kd lf rt : Nat → Nat} {r k : Nat} {ln : Nat → Int32} {x : Int32} (h : bm_ln kd lf rt r ln k) (hx : ∀ w, w < 16 → bt x w = bm_gate (kd k) (lf k) (rt k) (bm_vals kd lf rt (fun s => r.testBit s) w k) (fun s => r.testBit s) w) : bm_ln kd lf rt r (upd ln k x) (k + 1) := by
  intro j hj w hw
  by_cases q : j = k
  · subst q
    rw [pk_us, bm_vals_new]
    exact hx w hw
  · rw [pk_un q, bm_vals_old _ _ _ _ _ _ (by omega)]
    exact h j (by omega) w hw
/-- the lanes of the word bits -/
def bm_LW (k : Nat) : Int32 := if k = 0 then 43690 else if k = 1 then 52428 else if k = 2 then 61680 else 65280
theorem bm_LW_bit : ∀ k, k < 4 → ∀ w, w < 16 → bt (bm_LW k) w = w.testBit k := by decide +kernel
theorem bm_lane (b : Bool) (w : Nat) (hw : w < 32) : bt (if b then (-1) else nI 0) w = b := by
  cases b with
  | false => exact b_0 w
  | true => exact b_m1 w hw
/-- the lanes before any cycle: of states as at first, of others no -/
def bm_fst (kd lf : Nat → Nat) (fr : Nat) (ln : Nat → Int32) (k : Nat) : Prop := ∀ j, j < k → ln j = if kd j = 7 then (if fr.testBit (lf j) then (-1) else nI 0) else nI 0
theorem bm_fst_0 (kd lf : Nat → Nat) (fr : Nat) (ln : Nat → Int32) : bm_fst kd lf fr ln 0 := fun j h => absurd h (Nat.not_lt_zero j)
theorem bm_fst_up {kd lf : Nat → Nat} {fr k : Nat} {ln : Nat → Int32} {x : Int32} (h : bm_fst kd lf fr ln k) (hx : x = if kd k = 7 then (if fr.testBit (lf k) then (-1) else nI 0) else nI 0) : bm_fst kd lf fr (upd ln k x) (k + 1) := by
  intro j hj
  by_cases q : j = k
  · subst q
    rw [pk_us]
    exact hx
  · rw [pk_un q]
    exact h j (by omega)
end
section
-- ===== rows of our own over the kit's W =====
section BX
variable {p : Program} {l : Launch} {e : Env} {R : Room} {s : State} {m : MethodId} {args : Array Value} {below : List Frame} {meth : Method} {c : Code} {H : Heap} {locs : List Loc} {cells slots : Nat} {Q : State → Prop}
variable {cc : ByteArray} {pc : Nat} {ls : Array Slot} {rest st0 : List Value} {D : va_G} {cl : List vw_C} {A : Nat → Prop} {a : Nat} {tys : List (ClassId × FieldType)} {ws : va_W} {H0 : Heap}
theorem bx_top {x y : Int32} (h : x = y) (k : W p l e R s m args below meth c H locs cells slots Q (F0 m pc ls (.int y :: rest))) : W p l e R s m args below meth c H locs cells slots Q (F0 m pc ls (.int x :: rest)) := h ▸ k
theorem bx_topl {x y : Int64} (h : x = y) (k : W p l e R s m args below meth c H locs cells slots Q (F0 m pc ls (.long y :: rest))) : W p l e R s m args below meth c H locs cells slots Q (F0 m pc ls (.long x :: rest)) := h ▸ k
theorem bx_inc (a : Nat) : nI a + Int32.ofInt 1 = nI (a + 1) := nI_1 a
theorem bx_dec (a : Nat) : nI (a + 1) + Int32.ofInt (-1) = nI a := pk_m1 a
/-- the goal as a predicate of what moves: for loops -/
theorem bx_gen (k : ∀ V : Heap → List Loc → Nat → Nat → JFrame → Prop, (∀ H locs cs sl g, V H locs cs sl g ↔ W p l e R s m args below meth c H locs cs sl Q g) → V H locs cells slots (F0 m pc ls st0)) : W p l e R s m args below meth c H locs cells slots Q (F0 m pc ls st0) :=
  k (fun H locs cs sl g => W p l e R s m args below meth c H locs cs sl Q g) (fun _ _ _ _ _ => Iff.rfl)
theorem bx_iald (hexec : p.tables.exec = Jvm.exec) (hb : c.code = cc) (hK : va_K D cl tys s) (hP : va_P D cl ws H) (q0 t0 : Nat) {cA : ClassId} {n : Nat} {f : Nat → Int32} (ha : ws[q0]? = some (a, .inl (cA, n, .inl f))) (ht : tys[t0]? = some (cA, .int)) {i : Int32} {k : Nat} (hi : i = nI k) (hk : k < n) (hn : n < 2147483648) (hdg : decode cc pc = .ok (.iaload, 1))
    (kk : W p l e R s m args below meth c H locs cells slots Q (F0 m (pc + 1) ls (.int (f k) :: rest))) : W p l e R s m args below meth c H locs cells slots Q (F0 m pc ls (.int i :: .ref a :: rest)) := by
  subst hi
  refine va_iald hexec hb hK hP q0 t0 ha ht (vp_in_nI hk hn) hdg ?_
  rw [nI_clamp (show k < 2 ^ 31 from Nat.lt_trans hk hn)]
  exact kk
theorem bx_zald (hexec : p.tables.exec = Jvm.exec) (hb : c.code = cc) (hK : va_K D cl tys s) (hP : va_P D cl ws H) (q0 t0 : Nat) {cA : ClassId} {n : Nat} {f : Nat → Int32} (ha : ws[q0]? = some (a, .inl (cA, n, .inl f))) (ht : tys[t0]? = some (cA, .boolean)) {i : Int32} {k : Nat} (hi : i = nI k) (hk : k < n) (hn : n < 2147483648) (hdg : decode cc pc = .ok (.baload, 1))
    (kk : W p l e R s m args below meth c H locs cells slots Q (F0 m (pc + 1) ls (.int (f k) :: rest))) : W p l e R s m args below meth c H locs cells slots Q (F0 m pc ls (.int i :: .ref a :: rest)) := by
  subst hi
  refine va_zald hexec hb hK hP q0 t0 ha ht (vp_in_nI hk hn) hdg ?_
  rw [nI_clamp (show k < 2 ^ 31 from Nat.lt_trans hk hn)]
  exact kk
theorem bx_iast (hexec : p.tables.exec = Jvm.exec) (hb : c.code = cc) (hK : va_K D cl tys s) (hP : va_P D cl ws H) (hD : va_D A ws) (hS : va_S A H0 H locs) (q0 t0 : Nat) {cA : ClassId} {n : Nat} {f : Nat → Int32} (ha : ws[q0]? = some (a, .inl (cA, n, .inl f))) (ht : tys[t0]? = some (cA, .int)) {i x : Int32} {k : Nat} (hi : i = nI k) (hk : k < n) (hn : n < 2147483648) {g : Nat → Int32} (hg : upd f k x = g) (hdg : decode cc pc = .ok (.iastore, 1))
    (kk : ∀ (H1 : Heap) (locs1 : List Loc), va_P D cl (ws.set q0 (a, .inl (cA, n, .inl g))) H1 → va_D A (ws.set q0 (a, .inl (cA, n, .inl g))) → va_S A H0 H1 locs1 → W p l e R s m args below meth c H1 locs1 cells slots Q (F0 m (pc + 1) ls rest)) : W p l e R s m args below meth c H locs cells slots Q (F0 m pc ls (.int x :: .int i :: .ref a :: rest)) := by
  subst hi
  subst hg
  refine va_iast hexec hb hK hP hD hS q0 t0 ha ht (vp_in_nI hk hn) hdg ?_
  rw [nI_clamp (show k < 2 ^ 31 from Nat.lt_trans hk hn)]
  exact kk
theorem bx_zast (hexec : p.tables.exec = Jvm.exec) (hb : c.code = cc) (hK : va_K D cl tys s) (hP : va_P D cl ws H) (hD : va_D A ws) (hS : va_S A H0 H locs) (q0 t0 : Nat) {cA : ClassId} {n : Nat} {f : Nat → Int32} (ha : ws[q0]? = some (a, .inl (cA, n, .inl f))) (ht : tys[t0]? = some (cA, .boolean)) {i : Int32} {b : Bool} {k : Nat} (hi : i = nI k) (hk : k < n) (hn : n < 2147483648) {g : Nat → Int32} (hg : upd f k (bz b) = g) (hdg : decode cc pc = .ok (.bastore, 1))
    (kk : ∀ (H1 : Heap) (locs1 : List Loc), va_P D cl (ws.set q0 (a, .inl (cA, n, .inl g))) H1 → va_D A (ws.set q0 (a, .inl (cA, n, .inl g))) → va_S A H0 H1 locs1 → W p l e R s m args below meth c H1 locs1 cells slots Q (F0 m (pc + 1) ls rest)) : W p l e R s m args below meth c H locs cells slots Q (F0 m pc ls (.int (bz b) :: .int i :: .ref a :: rest)) := by
  subst hi
  subst hg
  refine va_zast hexec hb hK hP hD hS q0 t0 ha ht (vp_in_nI hk hn) hdg ?_
  rw [nI_clamp (show k < 2 ^ 31 from Nat.lt_trans hk hn), bz_vp]
  exact kk
/-- the end of a method that only reads -/
def bx_qR (post : Int32 → Prop) : Array Value → State → Outcome → State → Prop := fun _ st o t => ∃ r : Int32, o = .returned (some (.int r)) ∧ post r ∧ t.heap = st.heap
theorem bx_callR {post : Int32 → Prop} {a0 : Array Value} (hr : va_Run p l e R s m args below meth c H locs cells slots 0 0 (F0 m pc ls st0) rest (bx_qR post a0) (fun _ => False))
    (kk : ∀ r : Int32, post r → W p l e R s m args below meth c H locs cells slots Q (F0 m (pc + 3) ls (.int r :: rest))) : W p l e R s m args below meth c H locs cells slots Q (F0 m pc ls st0) := by
  intro T hT X
  obtain ⟨v, st₀, t, T', L, h0, X', hL, e1, e2, ⟨r, hv, hp, hh⟩, st⟩ := hr T hT X
  cases hv
  obtain ⟨t2, a1, b1⟩ := kk r hp T' (by rw [e1, hh, h0]) (Stand.forget X' (fun q h => (hL q h).elim))
  exact ⟨t2, st t2 a1, b1⟩
theorem bx_imp {Q' : State → Prop} {g : JFrame} (h : ∀ t, Q t → Q' t) (k : W p l e R s m args below meth c H locs cells slots Q g) : W p l e R s m args below meth c H locs cells slots Q' g := by
  intro T hT X
  obtain ⟨t, a, b⟩ := k T hT X
  exact ⟨t, a, h t b⟩
end BX
end
section
-- ===== words and surroundings =====
/-- all good words of the tables -/
def gw : List Cond := lw_tbl.filter goodWord
theorem gw_tbl {w : Cond} (h : w ∈ gw) : w ∈ lw_tbl := (List.mem_filter.mp h).1
theorem gw_good : ∀ w ∈ gw, (w.onTables && w.keeps) = true ∨ ∃ ty, w = .arrayClass ty := fun _ h => good_of_word (List.mem_filter.mp h).2
abbrev bw (y : MethodName) (b : ByteArray) (n : Nat) (ret : Option FieldType) : List Cond := .code y b n ret :: gw
abbrev bwH (y : MethodName) (b : ByteArray) (n : Nat) (ret : Option FieldType) (hh : List (Nat × Nat × Nat × Nat)) : List Cond := .codeWith y b n ret hh :: gw
theorem bx_goodH {y : MethodName} {b : ByteArray} {n : Nat} {ret : Option FieldType} {hh : List (Nat × Nat × Nat × Nat)} (hc : Cond.codeWith y b n ret hh ∈ gw) : GoodIn gw (bwH y b n ret hh) := fun w h => by
  rcases List.mem_cons.mp h with h | h
  · rw [h]
    exact ⟨hc, gw_good _ hc⟩
  · exact ⟨h, gw_good _ h⟩
theorem bx_good {y : MethodName} {b : ByteArray} {n : Nat} {ret : Option FieldType} (hc : Cond.code y b n ret ∈ gw) : GoodIn gw (bw y b n ret) := fun w h => by
  rcases List.mem_cons.mp h with h | h
  · rw [h]
    exact ⟨hc, gw_good _ hc⟩
  · exact ⟨h, gw_good _ h⟩
-- ===== words by their places =====
theorem gw_at {w : Cond} (k : Nat) (h : tables_1[k]? = some w) (hg : goodWord w = true) : w ∈ gw := List.mem_filter.mpr ⟨List.mem_append_right _ (List.mem_of_getElem? h), hg⟩
theorem gw_sel {w : Cond} (k : Nat) (h : (k2_sels lw_privs)[k]? = some w) (hg : goodWord w = true) : w ∈ gw := List.mem_filter.mpr ⟨List.mem_append_left _ (List.mem_of_getElem? h), hg⟩
theorem ini_Law : Cond.initialized RL ∈ gw := gw_at 0 (by decide +kernel) (by decide +kernel)
theorem ini_BM : Cond.initialized RX3 ∈ gw := gw_at 1 (by decide +kernel) (by decide +kernel)
theorem ini_Net : Cond.initialized RX2 ∈ gw := gw_at 2 (by decide +kernel) (by decide +kernel)
theorem ini_Math : Cond.initialized RJm ∈ gw := gw_at 3 (by decide +kernel) (by decide +kernel)
theorem ini_Hunt : Cond.initialized RX1 ∈ gw := gw_at 4 (by decide +kernel) (by decide +kernel)
theorem ini_Hand : Cond.initialized RX0 ∈ gw := gw_at 5 (by decide +kernel) (by decide +kernel)
theorem ini_Mod : Cond.initialized RX4 ∈ gw := gw_at 6 (by decide +kernel) (by decide +kernel)
theorem ini_Throwable : (Cond.initialized "java/lang/Throwable") ∈ gw := gw_at 7 (by decide +kernel) (by decide +kernel)
theorem ini_Exception : (Cond.initialized "java/lang/Exception") ∈ gw := gw_at 8 (by decide +kernel) (by decide +kernel)
theorem ini_RuntimeException : (Cond.initialized "java/lang/RuntimeException") ∈ gw := gw_at 9 (by decide +kernel) (by decide +kernel)
theorem ini_IllegalArgumentException : (Cond.initialized "java/lang/IllegalArgumentException") ∈ gw := gw_at 10 (by decide +kernel) (by decide +kernel)
theorem ini_UnsupportedOperationException : (Cond.initialized "java/lang/UnsupportedOperationException") ∈ gw := gw_at 11 (by decide +kernel) (by decide +kernel)
theorem ini_Arrs : Cond.initialized RJa ∈ gw := gw_at 12 (by decide +kernel) (by decide +kernel)
theorem ini_IndexOutOfBoundsException : (Cond.initialized "java/lang/IndexOutOfBoundsException") ∈ gw := gw_at 13 (by decide +kernel) (by decide +kernel)
theorem lk_Law_8 : (Cond.classLink RL 8 "BoundedMachines") ∈ gw := gw_at 14 (by decide +kernel) (by decide +kernel)
theorem inst_BM : Cond.instantiable RX3 3 ∈ gw := gw_at 15 (by decide +kernel) (by decide +kernel)
theorem lk_Law_50 : (Cond.methodLink RL 50 y_BM_init) ∈ gw := gw_at 16 (by decide +kernel) (by decide +kernel)
theorem mi_BM_init : (Cond.instanceMethod y_BM_init) ∈ gw := gw_at 17 (by decide +kernel) (by decide +kernel)
set_option maxRecDepth 100000 in
theorem mc_BM_init : Cond.code y_BM_init b_BM_init 2 (none) ∈ gw := gw_at 18 rfl (by decide +kernel)
theorem lk_BM_1 : (Cond.methodLink RX3 1 objectInit) ∈ gw := gw_at 19 (by decide +kernel) (by decide +kernel)
theorem mi_obj : (Cond.instanceMethod objectInit) ∈ gw := gw_at 20 (by decide +kernel) (by decide +kernel)
set_option maxRecDepth 100000 in
theorem mc_obj : Cond.code objectInit ⟨#[0xb1]⟩ 1 none ∈ gw := gw_at 21 rfl (by decide +kernel)
theorem lk_BM_7 : (Cond.classLink RX3 7 "BoundedMachines$Net") ∈ gw := gw_at 22 (by decide +kernel) (by decide +kernel)
theorem inst_Net : Cond.instantiable RX2 13 ∈ gw := gw_at 23 (by decide +kernel) (by decide +kernel)
theorem lk_BM_9 : (Cond.methodLink RX3 9 y_Math_floorMod) ∈ gw := gw_at 24 (by decide +kernel) (by decide +kernel)
theorem mi_Math_floorMod : (Cond.static y_Math_floorMod) ∈ gw := gw_at 25 (by decide +kernel) (by decide +kernel)
set_option maxRecDepth 100000 in
theorem mc_Math_floorMod : Cond.code y_Math_floorMod b_Math_floorMod 3 (some .int) ∈ gw := gw_at 26 rfl (by decide +kernel)
theorem mi_Net_init : (Cond.instanceMethod y_Net_init) ∈ gw := gw_at 28 (by decide +kernel) (by decide +kernel)
set_option maxRecDepth 100000 in
theorem mc_Net_init : Cond.code y_Net_init b_Net_init 3 (none) ∈ gw := gw_at 29 rfl (by decide +kernel)
theorem lk_Net_3 : (Cond.methodLink RX2 3 objectInit) ∈ gw := gw_at 30 (by decide +kernel) (by decide +kernel)
theorem lk_Net_30 : (Cond.fieldLink RX2 30 "BoundedMachines$Net" "wordBits" "I") ∈ gw := gw_at 31 (by decide +kernel) (by decide +kernel)
theorem lk_Net_34 : (Cond.fieldLink RX2 34 "BoundedMachines$Net" "wordCount" "I") ∈ gw := gw_at 33 (by decide +kernel) (by decide +kernel)
theorem lk_Net_11 : (Cond.fieldLink RX2 11 "BoundedMachines$Net" "kinds" "[I") ∈ gw := gw_at 36 (by decide +kernel) (by decide +kernel)
theorem lk_Net_15 : (Cond.fieldLink RX2 15 "BoundedMachines$Net" "lefts" "[I") ∈ gw := gw_at 37 (by decide +kernel) (by decide +kernel)
theorem lk_Net_18 : (Cond.fieldLink RX2 18 "BoundedMachines$Net" "rights" "[I") ∈ gw := gw_at 38 (by decide +kernel) (by decide +kernel)
theorem lk_Net_21 : (Cond.fieldLink RX2 21 "BoundedMachines$Net" "nexts" "[I") ∈ gw := gw_at 39 (by decide +kernel) (by decide +kernel)
theorem lk_Net_24 : (Cond.fieldLink RX2 24 "BoundedMachines$Net" "pairLefts" "[I") ∈ gw := gw_at 40 (by decide +kernel) (by decide +kernel)
theorem lk_Net_27 : (Cond.fieldLink RX2 27 "BoundedMachines$Net" "pairRights" "[I") ∈ gw := gw_at 41 (by decide +kernel) (by decide +kernel)
theorem lk_Net_37 : (Cond.fieldLink RX2 37 "BoundedMachines$Net" "nodeCount" "I") ∈ gw := gw_at 42 (by decide +kernel) (by decide +kernel)
theorem lk_Net_40 : (Cond.fieldLink RX2 40 "BoundedMachines$Net" "stateCount" "I") ∈ gw := gw_at 44 (by decide +kernel) (by decide +kernel)
theorem lk_Net_63 : (Cond.fieldLink RX2 63 "BoundedMachines$Net" "statesOfSideOne" "I") ∈ gw := gw_at 46 (by decide +kernel) (by decide +kernel)
theorem lk_Net_43 : (Cond.fieldLink RX2 43 "BoundedMachines$Net" "pairCount" "I") ∈ gw := gw_at 48 (by decide +kernel) (by decide +kernel)
theorem lk_Net_60 : (Cond.fieldLink RX2 60 "BoundedMachines$Net" "firstRow" "I") ∈ gw := gw_at 52 (by decide +kernel) (by decide +kernel)
theorem m_arr_int : (Cond.arrayClass .int) ∈ gw := gw_at 80 (by decide +kernel) (by decide +kernel)
theorem lk_BM_24 : (Cond.classLink RX3 24 "BoundedMachines$Hunt") ∈ gw := gw_at 81 (by decide +kernel) (by decide +kernel)
theorem inst_Hunt : Cond.instantiable RX1 10 ∈ gw := gw_at 82 (by decide +kernel) (by decide +kernel)
theorem mi_Hunt_init : (Cond.instanceMethod y_Hunt_init) ∈ gw := gw_at 84 (by decide +kernel) (by decide +kernel)
set_option maxRecDepth 100000 in
theorem mc_Hunt_init : Cond.code y_Hunt_init b_Hunt_init 2 (none) ∈ gw := gw_at 85 rfl (by decide +kernel)
theorem lk_Hunt_5 : (Cond.methodLink RX1 5 objectInit) ∈ gw := gw_at 86 (by decide +kernel) (by decide +kernel)
theorem lk_Hunt_36 : (Cond.fieldLink RX1 36 "BoundedMachines$Hunt" "net" "LBoundedMachines$Net;") ∈ gw := gw_at 87 (by decide +kernel) (by decide +kernel)
theorem lk_Hunt_11 : (Cond.fieldLink RX1 11 "BoundedMachines$Hunt" "lanes" "[I") ∈ gw := gw_at 88 (by decide +kernel) (by decide +kernel)
theorem lk_Hunt_17 : (Cond.fieldLink RX1 17 "BoundedMachines$Hunt" "rows" "[I") ∈ gw := gw_at 89 (by decide +kernel) (by decide +kernel)
theorem lk_Hunt_20 : (Cond.fieldLink RX1 20 "BoundedMachines$Hunt" "origins" "[I") ∈ gw := gw_at 90 (by decide +kernel) (by decide +kernel)
theorem lk_Hunt_23 : (Cond.fieldLink RX1 23 "BoundedMachines$Hunt" "levelStarts" "[I") ∈ gw := gw_at 91 (by decide +kernel) (by decide +kernel)
theorem lk_Hunt_26 : (Cond.fieldLink RX1 26 "BoundedMachines$Hunt" "program" "[I") ∈ gw := gw_at 92 (by decide +kernel) (by decide +kernel)
theorem lk_Hunt_29 : (Cond.fieldLink RX1 29 "BoundedMachines$Hunt" "known" "[I") ∈ gw := gw_at 93 (by decide +kernel) (by decide +kernel)
theorem lk_Hunt_40 : (Cond.fieldLink RX1 40 "BoundedMachines$Hunt" "rowCount" "I") ∈ gw := gw_at 94 (by decide +kernel) (by decide +kernel)
theorem lk_Hunt_43 : (Cond.fieldLink RX1 43 "BoundedMachines$Hunt" "clearLevels" "I") ∈ gw := gw_at 96 (by decide +kernel) (by decide +kernel)
theorem lk_Hunt_32 : (Cond.fieldLink RX1 32 "BoundedMachines$Hunt" "programLength" "I") ∈ gw := gw_at 98 (by decide +kernel) (by decide +kernel)
theorem lk_BM_33 : (Cond.classLink RX3 33 "BoundedMachines$HandRun") ∈ gw := gw_at 121 (by decide +kernel) (by decide +kernel)
theorem inst_Hand : Cond.instantiable RX0 6 ∈ gw := gw_at 122 (by decide +kernel) (by decide +kernel)
theorem mi_Hand_init : (Cond.instanceMethod y_Hand_init) ∈ gw := gw_at 124 (by decide +kernel) (by decide +kernel)
set_option maxRecDepth 100000 in
theorem mc_Hand_init : Cond.code y_Hand_init b_Hand_init 2 (none) ∈ gw := gw_at 125 rfl (by decide +kernel)
theorem lk_Hand_3 : (Cond.methodLink RX0 3 objectInit) ∈ gw := gw_at 126 (by decide +kernel) (by decide +kernel)
theorem lk_Hand_21 : (Cond.fieldLink RX0 21 "BoundedMachines$HandRun" "net" "LBoundedMachines$Net;") ∈ gw := gw_at 127 (by decide +kernel) (by decide +kernel)
theorem lk_Hand_11 : (Cond.fieldLink RX0 11 "BoundedMachines$HandRun" "lanes" "[I") ∈ gw := gw_at 128 (by decide +kernel) (by decide +kernel)
theorem lk_Hand_28 : (Cond.fieldLink RX0 28 "BoundedMachines$HandRun" "row" "I") ∈ gw := gw_at 129 (by decide +kernel) (by decide +kernel)
theorem lk_Hand_31 : (Cond.fieldLink RX0 31 "BoundedMachines$HandRun" "lane" "I") ∈ gw := gw_at 130 (by decide +kernel) (by decide +kernel)
theorem lk_Hand_34 : (Cond.fieldLink RX0 34 "BoundedMachines$HandRun" "cycles" "I") ∈ gw := gw_at 131 (by decide +kernel) (by decide +kernel)
theorem lk_Hand_17 : (Cond.fieldLink RX0 17 "BoundedMachines$HandRun" "firstPair" "I") ∈ gw := gw_at 133 (by decide +kernel) (by decide +kernel)
theorem lk_BM_18 : (Cond.fieldLink RX3 18 "BoundedMachines" "net" "LBoundedMachines$Net;") ∈ gw := gw_at 148 (by decide +kernel) (by decide +kernel)
theorem lk_BM_29 : (Cond.fieldLink RX3 29 "BoundedMachines" "hunt" "LBoundedMachines$Hunt;") ∈ gw := gw_at 149 (by decide +kernel) (by decide +kernel)
theorem lk_BM_36 : (Cond.fieldLink RX3 36 "BoundedMachines" "hand" "LBoundedMachines$HandRun;") ∈ gw := gw_at 150 (by decide +kernel) (by decide +kernel)
theorem lk_Law_79 : (Cond.methodLink RL 79 y_BM_length) ∈ gw := gw_at 158 (by decide +kernel) (by decide +kernel)
theorem mi_BM_length : (Cond.instanceMethod y_BM_length) ∈ gw := gw_at 159 (by decide +kernel) (by decide +kernel)
theorem ms_BM_length : Cond.selects RX3 y_BM_length y_BM_length ∈ gw := gw_at 160 (by decide +kernel) (by decide +kernel)
set_option maxRecDepth 100000 in
theorem mc_BM_length : Cond.code y_BM_length b_BM_length 1 (some .int) ∈ gw := gw_at 161 rfl (by decide +kernel)
theorem lk_Law_86 : (Cond.methodLink RL 86 y_BM_clear) ∈ gw := gw_at 162 (by decide +kernel) (by decide +kernel)
theorem mi_BM_clear : (Cond.instanceMethod y_BM_clear) ∈ gw := gw_at 163 (by decide +kernel) (by decide +kernel)
theorem ms_BM_clear : Cond.selects RX3 y_BM_clear y_BM_clear ∈ gw := gw_at 164 (by decide +kernel) (by decide +kernel)
set_option maxRecDepth 100000 in
theorem mc_BM_clear : Cond.code y_BM_clear b_BM_clear 1 (some .int) ∈ gw := gw_at 165 rfl (by decide +kernel)
theorem lk_Law_90 : (Cond.methodLink RL 90 y_BM_seen) ∈ gw := gw_at 166 (by decide +kernel) (by decide +kernel)
theorem mi_BM_seen : (Cond.instanceMethod y_BM_seen) ∈ gw := gw_at 167 (by decide +kernel) (by decide +kernel)
theorem ms_BM_seen : Cond.selects RX3 y_BM_seen y_BM_seen ∈ gw := gw_at 168 (by decide +kernel) (by decide +kernel)
set_option maxRecDepth 100000 in
theorem mc_BM_seen : Cond.code y_BM_seen b_BM_seen 1 (some .int) ∈ gw := gw_at 169 rfl (by decide +kernel)
theorem lk_Law_97 : (Cond.methodLink RL 97 y_BM_begin) ∈ gw := gw_at 170 (by decide +kernel) (by decide +kernel)
theorem mi_BM_begin : (Cond.instanceMethod y_BM_begin) ∈ gw := gw_at 171 (by decide +kernel) (by decide +kernel)
theorem ms_BM_begin : Cond.selects RX3 y_BM_begin y_BM_begin ∈ gw := gw_at 172 (by decide +kernel) (by decide +kernel)
set_option maxRecDepth 100000 in
theorem mc_BM_begin : Cond.code y_BM_begin b_BM_begin 1 (none) ∈ gw := gw_at 173 rfl (by decide +kernel)
theorem mi_Hand_restart : (Cond.instanceMethod y_Hand_restart) ∈ gw := gw_at 176 (by decide +kernel) (by decide +kernel)
set_option maxRecDepth 100000 in
theorem mc_Hand_restart : Cond.code y_Hand_restart b_Hand_restart 1 (none) ∈ gw := gw_at 177 rfl (by decide +kernel)
theorem mi_Net_layAsAtFirst : (Cond.instanceMethod y_Net_layAsAtFirst) ∈ gw := gw_at 180 (by decide +kernel) (by decide +kernel)
set_option maxRecDepth 100000 in
theorem mc_Net_layAsAtFirst : Cond.code y_Net_layAsAtFirst b_Net_layAsAtFirst 3 (none) ∈ gw := gw_at 181 rfl (by decide +kernel)
theorem lk_Net_66 : (Cond.methodLink RX2 66 y_Net_lanesOfState) ∈ gw := gw_at 182 (by decide +kernel) (by decide +kernel)
theorem mi_Net_lanesOfState : (Cond.static y_Net_lanesOfState) ∈ gw := gw_at 183 (by decide +kernel) (by decide +kernel)
set_option maxRecDepth 100000 in
theorem mc_Net_lanesOfState : Cond.code y_Net_lanesOfState b_Net_lanesOfState 2 (some .int) ∈ gw := gw_at 184 rfl (by decide +kernel)
theorem lk_Law_101 : (Cond.methodLink RL 101 y_BM_cycle) ∈ gw := gw_at 185 (by decide +kernel) (by decide +kernel)
theorem mi_BM_cycle : (Cond.instanceMethod y_BM_cycle) ∈ gw := gw_at 186 (by decide +kernel) (by decide +kernel)
theorem ms_BM_cycle : Cond.selects RX3 y_BM_cycle y_BM_cycle ∈ gw := gw_at 187 (by decide +kernel) (by decide +kernel)
set_option maxRecDepth 100000 in
theorem mc_BM_cycle : Cond.code y_BM_cycle b_BM_cycle 2 (some .boolean) ∈ gw := gw_at 188 rfl (by decide +kernel)
theorem mi_Hand_step : (Cond.instanceMethod y_Hand_step) ∈ gw := gw_at 191 (by decide +kernel) (by decide +kernel)
set_option maxRecDepth 100000 in
theorem mc_Hand_step : Cond.code y_Hand_step b_Hand_step 2 (some .boolean) ∈ gw := gw_at 192 rfl (by decide +kernel)
theorem mi_Net_settle : (Cond.instanceMethod y_Net_settle) ∈ gw := gw_at 195 (by decide +kernel) (by decide +kernel)
set_option maxRecDepth 100000 in
theorem mc_Net_settle : Cond.code y_Net_settle b_Net_settle 4 (none) ∈ gw := gw_at 196 rfl (by decide +kernel)
theorem lk_Net_70 : (Cond.methodLink RX2 70 y_Net_lanesOf) ∈ gw := gw_at 197 (by decide +kernel) (by decide +kernel)
theorem mi_Net_lanesOf : (Cond.instanceMethod y_Net_lanesOf) ∈ gw := gw_at 199 (by decide +kernel) (by decide +kernel)
set_option maxRecDepth 100000 in
theorem mc_Net_lanesOf : Cond.code y_Net_lanesOf b_Net_lanesOf 6 (some .int) ∈ gw := gw_at 200 rfl (by decide +kernel)
theorem lk_Net_74 : (Cond.fieldLink RX2 74 "BoundedMachines$Net" "LANES_OF_WORD_BITS" "[I") ∈ gw := gw_at 201 (by decide +kernel) (by decide +kernel)
theorem mi_Net_firstDifferingPair : (Cond.instanceMethod y_Net_firstDifferingPair) ∈ gw := gw_at 205 (by decide +kernel) (by decide +kernel)
set_option maxRecDepth 100000 in
theorem mc_Net_firstDifferingPair : Cond.code y_Net_firstDifferingPair b_Net_firstDifferingPair 5 (some .int) ∈ gw := gw_at 206 rfl (by decide +kernel)
theorem mi_Net_rowAfter : (Cond.instanceMethod y_Net_rowAfter) ∈ gw := gw_at 209 (by decide +kernel) (by decide +kernel)
set_option maxRecDepth 100000 in
theorem mc_Net_rowAfter : Cond.code y_Net_rowAfter b_Net_rowAfter 5 (some .int) ∈ gw := gw_at 210 rfl (by decide +kernel)
theorem lk_Law_108 : (Cond.methodLink RL 108 y_BM_replay) ∈ gw := gw_at 211 (by decide +kernel) (by decide +kernel)
theorem mi_BM_replay : (Cond.instanceMethod y_BM_replay) ∈ gw := gw_at 212 (by decide +kernel) (by decide +kernel)
theorem ms_BM_replay : Cond.selects RX3 y_BM_replay y_BM_replay ∈ gw := gw_at 213 (by decide +kernel) (by decide +kernel)
set_option maxRecDepth 100000 in
theorem mc_BM_replay : Cond.code y_BM_replay b_BM_replay 4 (some .int) ∈ gw := gw_at 214 rfl (by decide +kernel)
theorem mi_Hunt_programWord : (Cond.instanceMethod y_Hunt_programWord) ∈ gw := gw_at 217 (by decide +kernel) (by decide +kernel)
set_option maxRecDepth 100000 in
theorem mc_Hunt_programWord : Cond.code y_Hunt_programWord b_Hunt_programWord 2 (some .int) ∈ gw := gw_at 218 rfl (by decide +kernel)
theorem lk_Law_112 : (Cond.methodLink RL 112 y_BM_count) ∈ gw := gw_at 219 (by decide +kernel) (by decide +kernel)
theorem mi_BM_count : (Cond.instanceMethod y_BM_count) ∈ gw := gw_at 220 (by decide +kernel) (by decide +kernel)
theorem ms_BM_count : Cond.selects RX3 y_BM_count y_BM_count ∈ gw := gw_at 221 (by decide +kernel) (by decide +kernel)
set_option maxRecDepth 100000 in
theorem mc_BM_count : Cond.code y_BM_count b_BM_count 2 (some .int) ∈ gw := gw_at 222 rfl (by decide +kernel)
theorem mi_Net_gateCount : (Cond.instanceMethod y_Net_gateCount) ∈ gw := gw_at 225 (by decide +kernel) (by decide +kernel)
set_option maxRecDepth 100000 in
theorem mc_Net_gateCount : Cond.code y_Net_gateCount b_Net_gateCount 1 (some .int) ∈ gw := gw_at 226 rfl (by decide +kernel)
theorem lk_Law_44 : (Cond.methodLink RL 44 y_Law_cell) ∈ gw := gw_at 227 (by decide +kernel) (by decide +kernel)
theorem mi_Law_cell : (Cond.static y_Law_cell) ∈ gw := gw_at 228 (by decide +kernel) (by decide +kernel)
set_option maxRecDepth 100000 in
theorem mc_Law_cell : Cond.code y_Law_cell b_Law_cell 2 (some .int) ∈ gw := gw_at 229 rfl (by decide +kernel)
theorem lk_Law_56 : (Cond.methodLink RL 56 y_Law_state) ∈ gw := gw_at 230 (by decide +kernel) (by decide +kernel)
theorem mi_Law_state : (Cond.static y_Law_state) ∈ gw := gw_at 231 (by decide +kernel) (by decide +kernel)
set_option maxRecDepth 100000 in
theorem mc_Law_state : Cond.codeWith y_Law_state b_Law_state 5 (some .int) [(0, 10, 13, 13), (0, 10, 17, 15)] ∈ gw := gw_at 232 rfl (by decide +kernel)
theorem lk_Law_13 : (Cond.classLink RL 13 "java/lang/IllegalArgumentException") ∈ gw := gw_at 233 (by decide +kernel) (by decide +kernel)
theorem lk_Law_15 : (Cond.classLink RL 15 "java/lang/UnsupportedOperationException") ∈ gw := gw_at 234 (by decide +kernel) (by decide +kernel)
theorem lk_Law_7 : (Cond.methodLink RL 7 y_BM_state) ∈ gw := gw_at 235 (by decide +kernel) (by decide +kernel)
theorem mi_BM_state : (Cond.instanceMethod y_BM_state) ∈ gw := gw_at 236 (by decide +kernel) (by decide +kernel)
theorem ms_BM_state : Cond.selects RX3 y_BM_state y_BM_state ∈ gw := gw_at 237 (by decide +kernel) (by decide +kernel)
set_option maxRecDepth 100000 in
theorem mc_BM_state : Cond.code y_BM_state b_BM_state 4 (some .int) ∈ gw := gw_at 238 rfl (by decide +kernel)
theorem lk_BM_40 : (Cond.classLink RX3 40 "java/lang/IllegalArgumentException") ∈ gw := gw_at 239 (by decide +kernel) (by decide +kernel)
theorem lk_BM_44 : (Cond.methodLink RX3 44 ⟨"java/lang/IllegalArgumentException", "<init>", "(Ljava/lang/String;)V"⟩) ∈ gw := gw_at 281 (by decide +kernel) (by decide +kernel)
theorem m_arr_byte : (Cond.arrayClass .byte) ∈ gw := gw_at 306 (by decide +kernel) (by decide +kernel)
theorem mi_Net_hasAllStates : (Cond.instanceMethod y_Net_hasAllStates) ∈ gw := gw_at 309 (by decide +kernel) (by decide +kernel)
set_option maxRecDepth 100000 in
theorem mc_Net_hasAllStates : Cond.code y_Net_hasAllStates b_Net_hasAllStates 1 (some .boolean) ∈ gw := gw_at 310 rfl (by decide +kernel)
theorem mi_Net_hasAllNodes : (Cond.instanceMethod y_Net_hasAllNodes) ∈ gw := gw_at 313 (by decide +kernel) (by decide +kernel)
set_option maxRecDepth 100000 in
theorem mc_Net_hasAllNodes : Cond.code y_Net_hasAllNodes b_Net_hasAllNodes 1 (some .boolean) ∈ gw := gw_at 314 rfl (by decide +kernel)
theorem lk_BM_54 : (Cond.classLink RX3 54 "java/lang/UnsupportedOperationException") ∈ gw := gw_at 315 (by decide +kernel) (by decide +kernel)
theorem lk_BM_58 : (Cond.methodLink RX3 58 ⟨"java/lang/UnsupportedOperationException", "<init>", "(Ljava/lang/String;)V"⟩) ∈ gw := gw_at 325 (by decide +kernel) (by decide +kernel)
theorem mi_Net_addState : (Cond.instanceMethod y_Net_addState) ∈ gw := gw_at 333 (by decide +kernel) (by decide +kernel)
set_option maxRecDepth 100000 in
theorem mc_Net_addState : Cond.code y_Net_addState b_Net_addState 4 (some .int) ∈ gw := gw_at 334 rfl (by decide +kernel)
theorem lk_Net_56 : (Cond.methodLink RX2 56 y_Net_addNode) ∈ gw := gw_at 335 (by decide +kernel) (by decide +kernel)
theorem mi_Net_addNode : (Cond.instanceMethod y_Net_addNode) ∈ gw := gw_at 337 (by decide +kernel) (by decide +kernel)
set_option maxRecDepth 100000 in
theorem mc_Net_addNode : Cond.code y_Net_addNode b_Net_addNode 5 (some .int) ∈ gw := gw_at 338 rfl (by decide +kernel)
theorem lk_BM_63 : (Cond.methodLink RX3 63 y_BM_startAnew) ∈ gw := gw_at 339 (by decide +kernel) (by decide +kernel)
theorem mi_BM_startAnew : (Cond.instanceMethod y_BM_startAnew) ∈ gw := gw_at 341 (by decide +kernel) (by decide +kernel)
set_option maxRecDepth 100000 in
theorem mc_BM_startAnew : Cond.code y_BM_startAnew b_BM_startAnew 1 (none) ∈ gw := gw_at 342 rfl (by decide +kernel)
theorem mi_Hunt_forget : (Cond.instanceMethod y_Hunt_forget) ∈ gw := gw_at 345 (by decide +kernel) (by decide +kernel)
set_option maxRecDepth 100000 in
theorem mc_Hunt_forget : Cond.code y_Hunt_forget b_Hunt_forget 1 (none) ∈ gw := gw_at 346 rfl (by decide +kernel)
theorem lk_Law_64 : (Cond.methodLink RL 64 y_Law_gate) ∈ gw := gw_at 347 (by decide +kernel) (by decide +kernel)
theorem mi_Law_gate : (Cond.static y_Law_gate) ∈ gw := gw_at 348 (by decide +kernel) (by decide +kernel)
set_option maxRecDepth 100000 in
theorem mc_Law_gate : Cond.codeWith y_Law_gate b_Law_gate 6 (some .int) [(0, 12, 15, 13), (0, 12, 19, 15)] ∈ gw := gw_at 349 rfl (by decide +kernel)
theorem lk_Law_17 : (Cond.methodLink RL 17 y_BM_gate) ∈ gw := gw_at 350 (by decide +kernel) (by decide +kernel)
theorem mi_BM_gate : (Cond.instanceMethod y_BM_gate) ∈ gw := gw_at 351 (by decide +kernel) (by decide +kernel)
theorem ms_BM_gate : Cond.selects RX3 y_BM_gate y_BM_gate ∈ gw := gw_at 352 (by decide +kernel) (by decide +kernel)
set_option maxRecDepth 100000 in
theorem mc_BM_gate : Cond.code y_BM_gate b_BM_gate 5 (some .int) ∈ gw := gw_at 353 rfl (by decide +kernel)
theorem mi_Net_takesGate : (Cond.instanceMethod y_Net_takesGate) ∈ gw := gw_at 356 (by decide +kernel) (by decide +kernel)
set_option maxRecDepth 100000 in
theorem mc_Net_takesGate : Cond.code y_Net_takesGate b_Net_takesGate 4 (some .boolean) ∈ gw := gw_at 357 rfl (by decide +kernel)
theorem lk_Net_50 : (Cond.methodLink RX2 50 y_Net_wantsLeft) ∈ gw := gw_at 358 (by decide +kernel) (by decide +kernel)
theorem mi_Net_wantsLeft : (Cond.static y_Net_wantsLeft) ∈ gw := gw_at 359 (by decide +kernel) (by decide +kernel)
set_option maxRecDepth 100000 in
theorem mc_Net_wantsLeft : Cond.code y_Net_wantsLeft b_Net_wantsLeft 1 (some .boolean) ∈ gw := gw_at 360 rfl (by decide +kernel)
theorem lk_Net_46 : (Cond.methodLink RX2 46 y_Net_isNode) ∈ gw := gw_at 361 (by decide +kernel) (by decide +kernel)
theorem mi_Net_isNode : (Cond.instanceMethod y_Net_isNode) ∈ gw := gw_at 363 (by decide +kernel) (by decide +kernel)
set_option maxRecDepth 100000 in
theorem mc_Net_isNode : Cond.code y_Net_isNode b_Net_isNode 2 (some .boolean) ∈ gw := gw_at 364 rfl (by decide +kernel)
theorem lk_Net_53 : (Cond.methodLink RX2 53 y_Net_wantsRight) ∈ gw := gw_at 365 (by decide +kernel) (by decide +kernel)
theorem mi_Net_wantsRight : (Cond.static y_Net_wantsRight) ∈ gw := gw_at 366 (by decide +kernel) (by decide +kernel)
set_option maxRecDepth 100000 in
theorem mc_Net_wantsRight : Cond.code y_Net_wantsRight b_Net_wantsRight 1 (some .boolean) ∈ gw := gw_at 367 rfl (by decide +kernel)
theorem mi_Net_addGate : (Cond.instanceMethod y_Net_addGate) ∈ gw := gw_at 372 (by decide +kernel) (by decide +kernel)
set_option maxRecDepth 100000 in
theorem mc_Net_addGate : Cond.code y_Net_addGate b_Net_addGate 4 (some .int) ∈ gw := gw_at 373 rfl (by decide +kernel)
theorem lk_Law_68 : (Cond.methodLink RL 68 y_Law_next) ∈ gw := gw_at 374 (by decide +kernel) (by decide +kernel)
theorem mi_Law_next : (Cond.static y_Law_next) ∈ gw := gw_at 375 (by decide +kernel) (by decide +kernel)
set_option maxRecDepth 100000 in
theorem mc_Law_next : Cond.codeWith y_Law_next b_Law_next 5 (some .int) [(0, 10, 13, 13)] ∈ gw := gw_at 376 rfl (by decide +kernel)
theorem lk_Law_21 : (Cond.methodLink RL 21 y_BM_next) ∈ gw := gw_at 377 (by decide +kernel) (by decide +kernel)
theorem mi_BM_next : (Cond.instanceMethod y_BM_next) ∈ gw := gw_at 378 (by decide +kernel) (by decide +kernel)
theorem ms_BM_next : Cond.selects RX3 y_BM_next y_BM_next ∈ gw := gw_at 379 (by decide +kernel) (by decide +kernel)
set_option maxRecDepth 100000 in
theorem mc_BM_next : Cond.code y_BM_next b_BM_next 4 (some .int) ∈ gw := gw_at 380 rfl (by decide +kernel)
theorem mi_Net_isState : (Cond.instanceMethod y_Net_isState) ∈ gw := gw_at 383 (by decide +kernel) (by decide +kernel)
set_option maxRecDepth 100000 in
theorem mc_Net_isState : Cond.code y_Net_isState b_Net_isState 2 (some .boolean) ∈ gw := gw_at 384 rfl (by decide +kernel)
theorem mi_Net_changeNext : (Cond.instanceMethod y_Net_changeNext) ∈ gw := gw_at 389 (by decide +kernel) (by decide +kernel)
set_option maxRecDepth 100000 in
theorem mc_Net_changeNext : Cond.code y_Net_changeNext b_Net_changeNext 5 (some .int) ∈ gw := gw_at 390 rfl (by decide +kernel)
theorem lk_Law_72 : (Cond.methodLink RL 72 y_Law_compare) ∈ gw := gw_at 391 (by decide +kernel) (by decide +kernel)
theorem mi_Law_compare : (Cond.static y_Law_compare) ∈ gw := gw_at 392 (by decide +kernel) (by decide +kernel)
set_option maxRecDepth 100000 in
theorem mc_Law_compare : Cond.codeWith y_Law_compare b_Law_compare 5 (some .int) [(0, 10, 13, 13), (0, 10, 17, 15)] ∈ gw := gw_at 393 rfl (by decide +kernel)
theorem lk_Law_25 : (Cond.methodLink RL 25 y_BM_compare) ∈ gw := gw_at 394 (by decide +kernel) (by decide +kernel)
theorem mi_BM_compare : (Cond.instanceMethod y_BM_compare) ∈ gw := gw_at 395 (by decide +kernel) (by decide +kernel)
theorem ms_BM_compare : Cond.selects RX3 y_BM_compare y_BM_compare ∈ gw := gw_at 396 (by decide +kernel) (by decide +kernel)
set_option maxRecDepth 100000 in
theorem mc_BM_compare : Cond.code y_BM_compare b_BM_compare 3 (some .int) ∈ gw := gw_at 397 rfl (by decide +kernel)
theorem mi_Net_hasAllPairs : (Cond.instanceMethod y_Net_hasAllPairs) ∈ gw := gw_at 401 (by decide +kernel) (by decide +kernel)
set_option maxRecDepth 100000 in
theorem mc_Net_hasAllPairs : Cond.code y_Net_hasAllPairs b_Net_hasAllPairs 1 (some .boolean) ∈ gw := gw_at 402 rfl (by decide +kernel)
theorem mi_Net_addPair : (Cond.instanceMethod y_Net_addPair) ∈ gw := gw_at 406 (by decide +kernel) (by decide +kernel)
set_option maxRecDepth 100000 in
theorem mc_Net_addPair : Cond.code y_Net_addPair b_Net_addPair 3 (none) ∈ gw := gw_at 407 rfl (by decide +kernel)
theorem lk_Law_75 : (Cond.methodLink RL 75 y_Law_search) ∈ gw := gw_at 408 (by decide +kernel) (by decide +kernel)
theorem mi_Law_search : (Cond.static y_Law_search) ∈ gw := gw_at 409 (by decide +kernel) (by decide +kernel)
set_option maxRecDepth 100000 in
theorem mc_Law_search : Cond.codeWith y_Law_search b_Law_search 4 (some .int) [(0, 9, 12, 13)] ∈ gw := gw_at 410 rfl (by decide +kernel)
theorem lk_Law_28 : (Cond.methodLink RL 28 y_BM_search) ∈ gw := gw_at 411 (by decide +kernel) (by decide +kernel)
theorem mi_BM_search : (Cond.instanceMethod y_BM_search) ∈ gw := gw_at 412 (by decide +kernel) (by decide +kernel)
theorem ms_BM_search : Cond.selects RX3 y_BM_search y_BM_search ∈ gw := gw_at 413 (by decide +kernel) (by decide +kernel)
set_option maxRecDepth 100000 in
theorem mc_BM_search : Cond.code y_BM_search b_BM_search 2 (some .int) ∈ gw := gw_at 414 rfl (by decide +kernel)
theorem mi_Hunt_goOn : (Cond.instanceMethod y_Hunt_goOn) ∈ gw := gw_at 418 (by decide +kernel) (by decide +kernel)
set_option maxRecDepth 100000 in
theorem mc_Hunt_goOn : Cond.code y_Hunt_goOn b_Hunt_goOn 3 (none) ∈ gw := gw_at 419 rfl (by decide +kernel)
theorem lk_Hunt_46 : (Cond.methodLink RX1 46 y_Hunt_start) ∈ gw := gw_at 420 (by decide +kernel) (by decide +kernel)
theorem mi_Hunt_start : (Cond.instanceMethod y_Hunt_start) ∈ gw := gw_at 422 (by decide +kernel) (by decide +kernel)
set_option maxRecDepth 100000 in
theorem mc_Hunt_start : Cond.code y_Hunt_start b_Hunt_start 1 (none) ∈ gw := gw_at 423 rfl (by decide +kernel)
theorem lk_Hunt_56 : (Cond.methodLink RX1 56 y_Arrs_fill) ∈ gw := gw_at 424 (by decide +kernel) (by decide +kernel)
theorem mi_Arrs_fill : (Cond.static y_Arrs_fill) ∈ gw := gw_at 425 (by decide +kernel) (by decide +kernel)
set_option maxRecDepth 100000 in
theorem mc_Arrs_fill : Cond.code y_Arrs_fill b_Arrs_fill 4 (none) ∈ gw := gw_at 426 rfl (by decide +kernel)
theorem lk_Hunt_65 : (Cond.methodLink RX1 65 y_Hunt_keepIfNew) ∈ gw := gw_at 427 (by decide +kernel) (by decide +kernel)
theorem mi_Hunt_keepIfNew : (Cond.instanceMethod y_Hunt_keepIfNew) ∈ gw := gw_at 429 (by decide +kernel) (by decide +kernel)
set_option maxRecDepth 100000 in
theorem mc_Hunt_keepIfNew : Cond.code y_Hunt_keepIfNew b_Hunt_keepIfNew 5 (some .boolean) ∈ gw := gw_at 430 rfl (by decide +kernel)
theorem lk_Hunt_49 : (Cond.methodLink RX1 49 y_Hunt_hasOpenLevel) ∈ gw := gw_at 431 (by decide +kernel) (by decide +kernel)
theorem mi_Hunt_hasOpenLevel : (Cond.instanceMethod y_Hunt_hasOpenLevel) ∈ gw := gw_at 433 (by decide +kernel) (by decide +kernel)
set_option maxRecDepth 100000 in
theorem mc_Hunt_hasOpenLevel : Cond.code y_Hunt_hasOpenLevel b_Hunt_hasOpenLevel 1 (some .boolean) ∈ gw := gw_at 434 rfl (by decide +kernel)
theorem lk_Hunt_69 : (Cond.methodLink RX1 69 y_Hunt_rowsOfLevel) ∈ gw := gw_at 435 (by decide +kernel) (by decide +kernel)
theorem mi_Hunt_rowsOfLevel : (Cond.instanceMethod y_Hunt_rowsOfLevel) ∈ gw := gw_at 437 (by decide +kernel) (by decide +kernel)
set_option maxRecDepth 100000 in
theorem mc_Hunt_rowsOfLevel : Cond.code y_Hunt_rowsOfLevel b_Hunt_rowsOfLevel 2 (some .int) ∈ gw := gw_at 438 rfl (by decide +kernel)
theorem lk_Hunt_53 : (Cond.methodLink RX1 53 y_Hunt_askLevel) ∈ gw := gw_at 439 (by decide +kernel) (by decide +kernel)
theorem mi_Hunt_askLevel : (Cond.instanceMethod y_Hunt_askLevel) ∈ gw := gw_at 441 (by decide +kernel) (by decide +kernel)
set_option maxRecDepth 100000 in
theorem mc_Hunt_askLevel : Cond.code y_Hunt_askLevel b_Hunt_askLevel 4 (none) ∈ gw := gw_at 442 rfl (by decide +kernel)
theorem mi_Net_leastDifferingWord : (Cond.instanceMethod y_Net_leastDifferingWord) ∈ gw := gw_at 446 (by decide +kernel) (by decide +kernel)
set_option maxRecDepth 100000 in
theorem mc_Net_leastDifferingWord : Cond.code y_Net_leastDifferingWord b_Net_leastDifferingWord 4 (some .int) ∈ gw := gw_at 447 rfl (by decide +kernel)
theorem lk_Hunt_81 : (Cond.methodLink RX1 81 y_Hunt_tellProgram) ∈ gw := gw_at 448 (by decide +kernel) (by decide +kernel)
theorem mi_Hunt_tellProgram : (Cond.instanceMethod y_Hunt_tellProgram) ∈ gw := gw_at 450 (by decide +kernel) (by decide +kernel)
set_option maxRecDepth 100000 in
theorem mc_Hunt_tellProgram : Cond.code y_Hunt_tellProgram b_Hunt_tellProgram 5 (none) ∈ gw := gw_at 451 rfl (by decide +kernel)
theorem lk_Hunt_85 : (Cond.methodLink RX1 85 y_Hunt_gather) ∈ gw := gw_at 452 (by decide +kernel) (by decide +kernel)
theorem mi_Hunt_gather : (Cond.instanceMethod y_Hunt_gather) ∈ gw := gw_at 454 (by decide +kernel) (by decide +kernel)
set_option maxRecDepth 100000 in
theorem mc_Hunt_gather : Cond.code y_Hunt_gather b_Hunt_gather 5 (some .int) ∈ gw := gw_at 455 rfl (by decide +kernel)
theorem lk_Law_83 : (Cond.methodLink RL 83 y_Law_word) ∈ gw := gw_at 458 (by decide +kernel) (by decide +kernel)
theorem mi_Law_word : (Cond.static y_Law_word) ∈ gw := gw_at 459 (by decide +kernel) (by decide +kernel)
set_option maxRecDepth 100000 in
theorem mc_Law_word : Cond.codeWith y_Law_word b_Law_word 4 (some .int) [(0, 9, 12, 35)] ∈ gw := gw_at 460 rfl (by decide +kernel)
theorem lk_Law_35 : (Cond.classLink RL 35 "java/lang/IndexOutOfBoundsException") ∈ gw := gw_at 461 (by decide +kernel) (by decide +kernel)
theorem lk_Law_32 : (Cond.methodLink RL 32 y_BM_word) ∈ gw := gw_at 462 (by decide +kernel) (by decide +kernel)
theorem mi_BM_word : (Cond.instanceMethod y_BM_word) ∈ gw := gw_at 463 (by decide +kernel) (by decide +kernel)
theorem ms_BM_word : Cond.selects RX3 y_BM_word y_BM_word ∈ gw := gw_at 464 (by decide +kernel) (by decide +kernel)
set_option maxRecDepth 100000 in
theorem mc_BM_word : Cond.code y_BM_word b_BM_word 2 (some .int) ∈ gw := gw_at 465 rfl (by decide +kernel)
theorem lk_BM_116 : (Cond.classLink RX3 116 "java/lang/IndexOutOfBoundsException") ∈ gw := gw_at 466 (by decide +kernel) (by decide +kernel)
theorem lk_BM_120 : (Cond.methodLink RX3 120 ⟨"java/lang/IndexOutOfBoundsException", "<init>", "(Ljava/lang/String;)V"⟩) ∈ gw := gw_at 476 (by decide +kernel) (by decide +kernel)
theorem lk_Law_94 : (Cond.methodLink RL 94 y_Law_level) ∈ gw := gw_at 482 (by decide +kernel) (by decide +kernel)
theorem mi_Law_level : (Cond.static y_Law_level) ∈ gw := gw_at 483 (by decide +kernel) (by decide +kernel)
set_option maxRecDepth 100000 in
theorem mc_Law_level : Cond.codeWith y_Law_level b_Law_level 4 (some .int) [(0, 9, 12, 35)] ∈ gw := gw_at 484 rfl (by decide +kernel)
theorem lk_Law_37 : (Cond.methodLink RL 37 y_BM_level) ∈ gw := gw_at 485 (by decide +kernel) (by decide +kernel)
theorem mi_BM_level : (Cond.instanceMethod y_BM_level) ∈ gw := gw_at 486 (by decide +kernel) (by decide +kernel)
theorem ms_BM_level : Cond.selects RX3 y_BM_level y_BM_level ∈ gw := gw_at 487 (by decide +kernel) (by decide +kernel)
set_option maxRecDepth 100000 in
theorem mc_BM_level : Cond.code y_BM_level b_BM_level 2 (some .int) ∈ gw := gw_at 488 rfl (by decide +kernel)
theorem lk_Law_105 : (Cond.methodLink RL 105 y_Law_truth) ∈ gw := gw_at 491 (by decide +kernel) (by decide +kernel)
theorem mi_Law_truth : (Cond.static y_Law_truth) ∈ gw := gw_at 492 (by decide +kernel) (by decide +kernel)
set_option maxRecDepth 100000 in
theorem mc_Law_truth : Cond.codeWith y_Law_truth b_Law_truth 4 (some .int) [(0, 16, 19, 35)] ∈ gw := gw_at 493 rfl (by decide +kernel)
theorem lk_Law_40 : (Cond.methodLink RL 40 y_BM_truth) ∈ gw := gw_at 494 (by decide +kernel) (by decide +kernel)
theorem mi_BM_truth : (Cond.instanceMethod y_BM_truth) ∈ gw := gw_at 495 (by decide +kernel) (by decide +kernel)
theorem ms_BM_truth : Cond.selects RX3 y_BM_truth y_BM_truth ∈ gw := gw_at 496 (by decide +kernel) (by decide +kernel)
set_option maxRecDepth 100000 in
theorem mc_BM_truth : Cond.code y_BM_truth b_BM_truth 2 (some .boolean) ∈ gw := gw_at 497 rfl (by decide +kernel)
theorem mi_Hand_truthOf : (Cond.instanceMethod y_Hand_truthOf) ∈ gw := gw_at 501 (by decide +kernel) (by decide +kernel)
set_option maxRecDepth 100000 in
theorem mc_Hand_truthOf : Cond.code y_Hand_truthOf b_Hand_truthOf 2 (some .boolean) ∈ gw := gw_at 502 rfl (by decide +kernel)
theorem lk_Law_53 : (Cond.classLink RL 53 "BoundedMachinesModel") ∈ gw := gw_at 503 (by decide +kernel) (by decide +kernel)
theorem inst_Mod : Cond.instantiable RX4 31 ∈ gw := gw_at 504 (by decide +kernel) (by decide +kernel)
theorem lk_Law_55 : (Cond.methodLink RL 55 y_Mod_init) ∈ gw := gw_at 505 (by decide +kernel) (by decide +kernel)
theorem mi_Mod_init : (Cond.instanceMethod y_Mod_init) ∈ gw := gw_at 506 (by decide +kernel) (by decide +kernel)
set_option maxRecDepth 100000 in
theorem mc_Mod_init : Cond.code y_Mod_init b_Mod_init 3 (none) ∈ gw := gw_at 507 rfl (by decide +kernel)
theorem lk_Mod_1 : (Cond.methodLink RX4 1 objectInit) ∈ gw := gw_at 508 (by decide +kernel) (by decide +kernel)
theorem lk_Mod_75 : (Cond.methodLink RX4 75 y_Mod_forget) ∈ gw := gw_at 509 (by decide +kernel) (by decide +kernel)
theorem mi_Mod_forget : (Cond.instanceMethod y_Mod_forget) ∈ gw := gw_at 511 (by decide +kernel) (by decide +kernel)
set_option maxRecDepth 100000 in
theorem mc_Mod_forget : Cond.code y_Mod_forget b_Mod_forget 2 (none) ∈ gw := gw_at 512 rfl (by decide +kernel)
theorem lk_Mod_94 : (Cond.methodLink RX4 94 y_Mod_anew) ∈ gw := gw_at 513 (by decide +kernel) (by decide +kernel)
theorem mi_Mod_anew : (Cond.instanceMethod y_Mod_anew) ∈ gw := gw_at 515 (by decide +kernel) (by decide +kernel)
set_option maxRecDepth 100000 in
theorem mc_Mod_anew : Cond.code y_Mod_anew b_Mod_anew 2 (none) ∈ gw := gw_at 516 rfl (by decide +kernel)
theorem lk_Mod_103 : (Cond.methodLink RX4 103 y_Mod_beginning) ∈ gw := gw_at 517 (by decide +kernel) (by decide +kernel)
theorem mi_Mod_beginning : (Cond.instanceMethod y_Mod_beginning) ∈ gw := gw_at 519 (by decide +kernel) (by decide +kernel)
set_option maxRecDepth 100000 in
theorem mc_Mod_beginning : Cond.code y_Mod_beginning b_Mod_beginning 3 (some .int) ∈ gw := gw_at 520 rfl (by decide +kernel)
theorem lk_Mod_78 : (Cond.fieldLink RX4 78 "BoundedMachinesModel" "thrown" "I") ∈ gw := gw_at 521 (by decide +kernel) (by decide +kernel)
theorem lk_Mod_69 : (Cond.fieldLink RX4 69 "BoundedMachinesModel" "bits" "I") ∈ gw := gw_at 522 (by decide +kernel) (by decide +kernel)
theorem lk_Mod_72 : (Cond.fieldLink RX4 72 "BoundedMachinesModel" "nodes" "I") ∈ gw := gw_at 523 (by decide +kernel) (by decide +kernel)
theorem lk_Mod_97 : (Cond.fieldLink RX4 97 "BoundedMachinesModel" "states" "I") ∈ gw := gw_at 524 (by decide +kernel) (by decide +kernel)
theorem lk_Mod_121 : (Cond.fieldLink RX4 121 "BoundedMachinesModel" "pairs" "I") ∈ gw := gw_at 525 (by decide +kernel) (by decide +kernel)
theorem lk_Mod_118 : (Cond.fieldLink RX4 118 "BoundedMachinesModel" "gates" "I") ∈ gw := gw_at 526 (by decide +kernel) (by decide +kernel)
theorem lk_Mod_7 : (Cond.fieldLink RX4 7 "BoundedMachinesModel" "sides" "[I") ∈ gw := gw_at 527 (by decide +kernel) (by decide +kernel)
theorem lk_Mod_13 : (Cond.fieldLink RX4 13 "BoundedMachinesModel" "op" "[I") ∈ gw := gw_at 528 (by decide +kernel) (by decide +kernel)
theorem lk_Mod_16 : (Cond.fieldLink RX4 16 "BoundedMachinesModel" "left" "[I") ∈ gw := gw_at 529 (by decide +kernel) (by decide +kernel)
theorem lk_Mod_19 : (Cond.fieldLink RX4 19 "BoundedMachinesModel" "right" "[I") ∈ gw := gw_at 530 (by decide +kernel) (by decide +kernel)
theorem lk_Mod_22 : (Cond.fieldLink RX4 22 "BoundedMachinesModel" "stateOf" "[I") ∈ gw := gw_at 531 (by decide +kernel) (by decide +kernel)
theorem lk_Mod_25 : (Cond.fieldLink RX4 25 "BoundedMachinesModel" "nodeOf" "[I") ∈ gw := gw_at 532 (by decide +kernel) (by decide +kernel)
theorem lk_Mod_28 : (Cond.fieldLink RX4 28 "BoundedMachinesModel" "nextOf" "[I") ∈ gw := gw_at 533 (by decide +kernel) (by decide +kernel)
theorem lk_Mod_31 : (Cond.fieldLink RX4 31 "BoundedMachinesModel" "firstOf" "[Z") ∈ gw := gw_at 534 (by decide +kernel) (by decide +kernel)
theorem lk_Mod_35 : (Cond.fieldLink RX4 35 "BoundedMachinesModel" "pairA" "[I") ∈ gw := gw_at 535 (by decide +kernel) (by decide +kernel)
theorem lk_Mod_38 : (Cond.fieldLink RX4 38 "BoundedMachinesModel" "pairB" "[I") ∈ gw := gw_at 536 (by decide +kernel) (by decide +kernel)
theorem lk_Mod_41 : (Cond.fieldLink RX4 41 "BoundedMachinesModel" "truth" "[Z") ∈ gw := gw_at 537 (by decide +kernel) (by decide +kernel)
theorem lk_Mod_81 : (Cond.fieldLink RX4 81 "BoundedMachinesModel" "rows" "I") ∈ gw := gw_at 538 (by decide +kernel) (by decide +kernel)
theorem lk_Mod_84 : (Cond.fieldLink RX4 84 "BoundedMachinesModel" "clear" "I") ∈ gw := gw_at 539 (by decide +kernel) (by decide +kernel)
theorem lk_Mod_87 : (Cond.fieldLink RX4 87 "BoundedMachinesModel" "isOver" "Z") ∈ gw := gw_at 540 (by decide +kernel) (by decide +kernel)
theorem lk_Mod_44 : (Cond.fieldLink RX4 44 "BoundedMachinesModel" "row" "[I") ∈ gw := gw_at 541 (by decide +kernel) (by decide +kernel)
theorem lk_Mod_47 : (Cond.fieldLink RX4 47 "BoundedMachinesModel" "parent" "[I") ∈ gw := gw_at 542 (by decide +kernel) (by decide +kernel)
theorem lk_Mod_50 : (Cond.fieldLink RX4 50 "BoundedMachinesModel" "byWord" "[I") ∈ gw := gw_at 543 (by decide +kernel) (by decide +kernel)
theorem lk_Mod_53 : (Cond.fieldLink RX4 53 "BoundedMachinesModel" "levelBegin" "[I") ∈ gw := gw_at 544 (by decide +kernel) (by decide +kernel)
theorem lk_Mod_56 : (Cond.fieldLink RX4 56 "BoundedMachinesModel" "came" "[Z") ∈ gw := gw_at 545 (by decide +kernel) (by decide +kernel)
theorem lk_Mod_59 : (Cond.fieldLink RX4 59 "BoundedMachinesModel" "program" "[I") ∈ gw := gw_at 546 (by decide +kernel) (by decide +kernel)
theorem lk_Mod_91 : (Cond.fieldLink RX4 91 "BoundedMachinesModel" "programSize" "I") ∈ gw := gw_at 547 (by decide +kernel) (by decide +kernel)
theorem lk_Mod_100 : (Cond.fieldLink RX4 100 "BoundedMachinesModel" "cycles" "I") ∈ gw := gw_at 548 (by decide +kernel) (by decide +kernel)
theorem lk_Mod_62 : (Cond.fieldLink RX4 62 "BoundedMachinesModel" "differs" "I") ∈ gw := gw_at 549 (by decide +kernel) (by decide +kernel)
theorem lk_Mod_107 : (Cond.fieldLink RX4 107 "BoundedMachinesModel" "handRow" "I") ∈ gw := gw_at 550 (by decide +kernel) (by decide +kernel)
theorem lk_Mod_66 : (Cond.fieldLink RX4 66 "BoundedMachinesModel" "shown" "[Z") ∈ gw := gw_at 551 (by decide +kernel) (by decide +kernel)
theorem m_arr_boolean : (Cond.arrayClass .boolean) ∈ gw := gw_at 615 (by decide +kernel) (by decide +kernel)
theorem lk_Law_60 : (Cond.methodLink RL 60 y_Mod_thrown) ∈ gw := gw_at 616 (by decide +kernel) (by decide +kernel)
theorem mi_Mod_thrown : (Cond.instanceMethod y_Mod_thrown) ∈ gw := gw_at 617 (by decide +kernel) (by decide +kernel)
theorem ms_Mod_thrown : Cond.selects RX4 y_Mod_thrown y_Mod_thrown ∈ gw := gw_at 618 (by decide +kernel) (by decide +kernel)
set_option maxRecDepth 100000 in
theorem mc_Mod_thrown : Cond.code y_Mod_thrown b_Mod_thrown 1 (some .int) ∈ gw := gw_at 619 rfl (by decide +kernel)
theorem lk_Law_59 : (Cond.methodLink RL 59 y_Mod_state) ∈ gw := gw_at 620 (by decide +kernel) (by decide +kernel)
theorem mi_Mod_state : (Cond.instanceMethod y_Mod_state) ∈ gw := gw_at 621 (by decide +kernel) (by decide +kernel)
theorem ms_Mod_state : Cond.selects RX4 y_Mod_state y_Mod_state ∈ gw := gw_at 622 (by decide +kernel) (by decide +kernel)
set_option maxRecDepth 100000 in
theorem mc_Mod_state : Cond.code y_Mod_state b_Mod_state 3 (some .int) ∈ gw := gw_at 623 rfl (by decide +kernel)
theorem lk_Mod_110 : (Cond.methodLink RX4 110 y_Mod_isOf) ∈ gw := gw_at 624 (by decide +kernel) (by decide +kernel)
theorem mi_Mod_isOf : (Cond.static y_Mod_isOf) ∈ gw := gw_at 625 (by decide +kernel) (by decide +kernel)
set_option maxRecDepth 100000 in
theorem mc_Mod_isOf : Cond.code y_Mod_isOf b_Mod_isOf 2 (some .boolean) ∈ gw := gw_at 626 rfl (by decide +kernel)
theorem lk_Mod_114 : (Cond.methodLink RX4 114 y_Mod_throwing) ∈ gw := gw_at 627 (by decide +kernel) (by decide +kernel)
theorem mi_Mod_throwing : (Cond.instanceMethod y_Mod_throwing) ∈ gw := gw_at 629 (by decide +kernel) (by decide +kernel)
set_option maxRecDepth 100000 in
theorem mc_Mod_throwing : Cond.code y_Mod_throwing b_Mod_throwing 3 (some .boolean) ∈ gw := gw_at 630 rfl (by decide +kernel)
theorem lk_Law_67 : (Cond.methodLink RL 67 y_Mod_gate) ∈ gw := gw_at 631 (by decide +kernel) (by decide +kernel)
theorem mi_Mod_gate : (Cond.instanceMethod y_Mod_gate) ∈ gw := gw_at 632 (by decide +kernel) (by decide +kernel)
theorem ms_Mod_gate : Cond.selects RX4 y_Mod_gate y_Mod_gate ∈ gw := gw_at 633 (by decide +kernel) (by decide +kernel)
set_option maxRecDepth 100000 in
theorem mc_Mod_gate : Cond.code y_Mod_gate b_Mod_gate 5 (some .int) ∈ gw := gw_at 634 rfl (by decide +kernel)
theorem lk_Law_71 : (Cond.methodLink RL 71 y_Mod_next) ∈ gw := gw_at 635 (by decide +kernel) (by decide +kernel)
theorem mi_Mod_next : (Cond.instanceMethod y_Mod_next) ∈ gw := gw_at 636 (by decide +kernel) (by decide +kernel)
theorem ms_Mod_next : Cond.selects RX4 y_Mod_next y_Mod_next ∈ gw := gw_at 637 (by decide +kernel) (by decide +kernel)
set_option maxRecDepth 100000 in
theorem mc_Mod_next : Cond.code y_Mod_next b_Mod_next 4 (some .int) ∈ gw := gw_at 638 rfl (by decide +kernel)
theorem lk_Law_74 : (Cond.methodLink RL 74 y_Mod_compare) ∈ gw := gw_at 639 (by decide +kernel) (by decide +kernel)
theorem mi_Mod_compare : (Cond.instanceMethod y_Mod_compare) ∈ gw := gw_at 640 (by decide +kernel) (by decide +kernel)
theorem ms_Mod_compare : Cond.selects RX4 y_Mod_compare y_Mod_compare ∈ gw := gw_at 641 (by decide +kernel) (by decide +kernel)
set_option maxRecDepth 100000 in
theorem mc_Mod_compare : Cond.code y_Mod_compare b_Mod_compare 3 (some .int) ∈ gw := gw_at 642 rfl (by decide +kernel)
theorem lk_Law_78 : (Cond.methodLink RL 78 y_Mod_search) ∈ gw := gw_at 643 (by decide +kernel) (by decide +kernel)
theorem mi_Mod_search : (Cond.instanceMethod y_Mod_search) ∈ gw := gw_at 644 (by decide +kernel) (by decide +kernel)
theorem ms_Mod_search : Cond.selects RX4 y_Mod_search y_Mod_search ∈ gw := gw_at 645 (by decide +kernel) (by decide +kernel)
set_option maxRecDepth 100000 in
theorem mc_Mod_search : Cond.code y_Mod_search b_Mod_search 2 (some .int) ∈ gw := gw_at 646 rfl (by decide +kernel)
theorem lk_Mod_138 : (Cond.methodLink RX4 138 y_Mod_come) ∈ gw := gw_at 647 (by decide +kernel) (by decide +kernel)
theorem mi_Mod_come : (Cond.instanceMethod y_Mod_come) ∈ gw := gw_at 649 (by decide +kernel) (by decide +kernel)
set_option maxRecDepth 100000 in
theorem mc_Mod_come : Cond.code y_Mod_come b_Mod_come 4 (none) ∈ gw := gw_at 650 rfl (by decide +kernel)
theorem lk_Mod_142 : (Cond.methodLink RX4 142 y_Mod_isFound) ∈ gw := gw_at 651 (by decide +kernel) (by decide +kernel)
theorem mi_Mod_isFound : (Cond.instanceMethod y_Mod_isFound) ∈ gw := gw_at 653 (by decide +kernel) (by decide +kernel)
set_option maxRecDepth 100000 in
theorem mc_Mod_isFound : Cond.code y_Mod_isFound b_Mod_isFound 5 (some .boolean) ∈ gw := gw_at 654 rfl (by decide +kernel)
theorem lk_Mod_128 : (Cond.methodLink RX4 128 y_Mod_work) ∈ gw := gw_at 655 (by decide +kernel) (by decide +kernel)
theorem mi_Mod_work : (Cond.instanceMethod y_Mod_work) ∈ gw := gw_at 657 (by decide +kernel) (by decide +kernel)
set_option maxRecDepth 100000 in
theorem mc_Mod_work : Cond.code y_Mod_work b_Mod_work 4 (none) ∈ gw := gw_at 658 rfl (by decide +kernel)
theorem lk_Mod_124 : (Cond.methodLink RX4 124 y_Mod_made) ∈ gw := gw_at 659 (by decide +kernel) (by decide +kernel)
theorem mi_Mod_made : (Cond.instanceMethod y_Mod_made) ∈ gw := gw_at 661 (by decide +kernel) (by decide +kernel)
set_option maxRecDepth 100000 in
theorem mc_Mod_made : Cond.code y_Mod_made b_Mod_made 4 (some .boolean) ∈ gw := gw_at 662 rfl (by decide +kernel)
theorem lk_Mod_132 : (Cond.methodLink RX4 132 y_Mod_difference) ∈ gw := gw_at 663 (by decide +kernel) (by decide +kernel)
theorem mi_Mod_difference : (Cond.instanceMethod y_Mod_difference) ∈ gw := gw_at 665 (by decide +kernel) (by decide +kernel)
set_option maxRecDepth 100000 in
theorem mc_Mod_difference : Cond.code y_Mod_difference b_Mod_difference 2 (some .int) ∈ gw := gw_at 666 rfl (by decide +kernel)
theorem lk_Mod_146 : (Cond.methodLink RX4 146 y_Mod_goThrough) ∈ gw := gw_at 667 (by decide +kernel) (by decide +kernel)
theorem mi_Mod_goThrough : (Cond.instanceMethod y_Mod_goThrough) ∈ gw := gw_at 669 (by decide +kernel) (by decide +kernel)
set_option maxRecDepth 100000 in
theorem mc_Mod_goThrough : Cond.code y_Mod_goThrough b_Mod_goThrough 4 (none) ∈ gw := gw_at 670 rfl (by decide +kernel)
theorem lk_Mod_135 : (Cond.methodLink RX4 135 y_Mod_after) ∈ gw := gw_at 671 (by decide +kernel) (by decide +kernel)
theorem mi_Mod_after : (Cond.instanceMethod y_Mod_after) ∈ gw := gw_at 673 (by decide +kernel) (by decide +kernel)
set_option maxRecDepth 100000 in
theorem mc_Mod_after : Cond.code y_Mod_after b_Mod_after 3 (some .int) ∈ gw := gw_at 674 rfl (by decide +kernel)
theorem lk_Law_82 : (Cond.methodLink RL 82 y_Mod_length) ∈ gw := gw_at 675 (by decide +kernel) (by decide +kernel)
theorem mi_Mod_length : (Cond.instanceMethod y_Mod_length) ∈ gw := gw_at 676 (by decide +kernel) (by decide +kernel)
theorem ms_Mod_length : Cond.selects RX4 y_Mod_length y_Mod_length ∈ gw := gw_at 677 (by decide +kernel) (by decide +kernel)
set_option maxRecDepth 100000 in
theorem mc_Mod_length : Cond.code y_Mod_length b_Mod_length 1 (some .int) ∈ gw := gw_at 678 rfl (by decide +kernel)
theorem lk_Law_85 : (Cond.methodLink RL 85 y_Mod_word) ∈ gw := gw_at 679 (by decide +kernel) (by decide +kernel)
theorem mi_Mod_word : (Cond.instanceMethod y_Mod_word) ∈ gw := gw_at 680 (by decide +kernel) (by decide +kernel)
theorem ms_Mod_word : Cond.selects RX4 y_Mod_word y_Mod_word ∈ gw := gw_at 681 (by decide +kernel) (by decide +kernel)
set_option maxRecDepth 100000 in
theorem mc_Mod_word : Cond.code y_Mod_word b_Mod_word 2 (some .int) ∈ gw := gw_at 682 rfl (by decide +kernel)
theorem lk_Law_89 : (Cond.methodLink RL 89 y_Mod_clear) ∈ gw := gw_at 683 (by decide +kernel) (by decide +kernel)
theorem mi_Mod_clear : (Cond.instanceMethod y_Mod_clear) ∈ gw := gw_at 684 (by decide +kernel) (by decide +kernel)
theorem ms_Mod_clear : Cond.selects RX4 y_Mod_clear y_Mod_clear ∈ gw := gw_at 685 (by decide +kernel) (by decide +kernel)
set_option maxRecDepth 100000 in
theorem mc_Mod_clear : Cond.code y_Mod_clear b_Mod_clear 1 (some .int) ∈ gw := gw_at 686 rfl (by decide +kernel)
theorem lk_Law_93 : (Cond.methodLink RL 93 y_Mod_seen) ∈ gw := gw_at 687 (by decide +kernel) (by decide +kernel)
theorem mi_Mod_seen : (Cond.instanceMethod y_Mod_seen) ∈ gw := gw_at 688 (by decide +kernel) (by decide +kernel)
theorem ms_Mod_seen : Cond.selects RX4 y_Mod_seen y_Mod_seen ∈ gw := gw_at 689 (by decide +kernel) (by decide +kernel)
set_option maxRecDepth 100000 in
theorem mc_Mod_seen : Cond.code y_Mod_seen b_Mod_seen 1 (some .int) ∈ gw := gw_at 690 rfl (by decide +kernel)
theorem lk_Law_96 : (Cond.methodLink RL 96 y_Mod_level) ∈ gw := gw_at 691 (by decide +kernel) (by decide +kernel)
theorem mi_Mod_level : (Cond.instanceMethod y_Mod_level) ∈ gw := gw_at 692 (by decide +kernel) (by decide +kernel)
theorem ms_Mod_level : Cond.selects RX4 y_Mod_level y_Mod_level ∈ gw := gw_at 693 (by decide +kernel) (by decide +kernel)
set_option maxRecDepth 100000 in
theorem mc_Mod_level : Cond.code y_Mod_level b_Mod_level 2 (some .int) ∈ gw := gw_at 694 rfl (by decide +kernel)
theorem lk_Law_100 : (Cond.methodLink RL 100 y_Mod_begin) ∈ gw := gw_at 695 (by decide +kernel) (by decide +kernel)
theorem mi_Mod_begin : (Cond.instanceMethod y_Mod_begin) ∈ gw := gw_at 696 (by decide +kernel) (by decide +kernel)
theorem ms_Mod_begin : Cond.selects RX4 y_Mod_begin y_Mod_begin ∈ gw := gw_at 697 (by decide +kernel) (by decide +kernel)
set_option maxRecDepth 100000 in
theorem mc_Mod_begin : Cond.code y_Mod_begin b_Mod_begin 1 (none) ∈ gw := gw_at 698 rfl (by decide +kernel)
theorem lk_Law_104 : (Cond.methodLink RL 104 y_Mod_cycle) ∈ gw := gw_at 699 (by decide +kernel) (by decide +kernel)
theorem mi_Mod_cycle : (Cond.instanceMethod y_Mod_cycle) ∈ gw := gw_at 700 (by decide +kernel) (by decide +kernel)
theorem ms_Mod_cycle : Cond.selects RX4 y_Mod_cycle y_Mod_cycle ∈ gw := gw_at 701 (by decide +kernel) (by decide +kernel)
set_option maxRecDepth 100000 in
theorem mc_Mod_cycle : Cond.code y_Mod_cycle b_Mod_cycle 3 (some .boolean) ∈ gw := gw_at 702 rfl (by decide +kernel)
theorem lk_Law_107 : (Cond.methodLink RL 107 y_Mod_truth) ∈ gw := gw_at 703 (by decide +kernel) (by decide +kernel)
theorem mi_Mod_truth : (Cond.instanceMethod y_Mod_truth) ∈ gw := gw_at 704 (by decide +kernel) (by decide +kernel)
theorem ms_Mod_truth : Cond.selects RX4 y_Mod_truth y_Mod_truth ∈ gw := gw_at 705 (by decide +kernel) (by decide +kernel)
set_option maxRecDepth 100000 in
theorem mc_Mod_truth : Cond.code y_Mod_truth b_Mod_truth 2 (some .boolean) ∈ gw := gw_at 706 rfl (by decide +kernel)
theorem lk_Law_111 : (Cond.methodLink RL 111 y_Mod_replay) ∈ gw := gw_at 707 (by decide +kernel) (by decide +kernel)
theorem mi_Mod_replay : (Cond.instanceMethod y_Mod_replay) ∈ gw := gw_at 708 (by decide +kernel) (by decide +kernel)
theorem ms_Mod_replay : Cond.selects RX4 y_Mod_replay y_Mod_replay ∈ gw := gw_at 709 (by decide +kernel) (by decide +kernel)
set_option maxRecDepth 100000 in
theorem mc_Mod_replay : Cond.code y_Mod_replay b_Mod_replay 3 (some .int) ∈ gw := gw_at 710 rfl (by decide +kernel)
theorem lk_Mod_149 : (Cond.methodLink RX4 149 y_Mod_cycle) ∈ gw := gw_at 711 (by decide +kernel) (by decide +kernel)
theorem lk_Law_115 : (Cond.methodLink RL 115 y_Mod_count) ∈ gw := gw_at 712 (by decide +kernel) (by decide +kernel)
theorem mi_Mod_count : (Cond.instanceMethod y_Mod_count) ∈ gw := gw_at 713 (by decide +kernel) (by decide +kernel)
theorem ms_Mod_count : Cond.selects RX4 y_Mod_count y_Mod_count ∈ gw := gw_at 714 (by decide +kernel) (by decide +kernel)
set_option maxRecDepth 100000 in
theorem mc_Mod_count : Cond.code y_Mod_count b_Mod_count 2 (some .int) ∈ gw := gw_at 715 rfl (by decide +kernel)
theorem m_arr_long : (Cond.arrayClass .long) ∈ gw := gw_at 716 (by decide +kernel) (by decide +kernel)
theorem ms_Hand_restart : Cond.selects RX0 y_Hand_restart y_Hand_restart ∈ gw := gw_sel 0 (by decide +kernel) (by decide +kernel)
theorem ms_Net_layAsAtFirst : Cond.selects RX2 y_Net_layAsAtFirst y_Net_layAsAtFirst ∈ gw := gw_sel 1 (by decide +kernel) (by decide +kernel)
theorem ms_Hand_step : Cond.selects RX0 y_Hand_step y_Hand_step ∈ gw := gw_sel 2 (by decide +kernel) (by decide +kernel)
theorem ms_Net_settle : Cond.selects RX2 y_Net_settle y_Net_settle ∈ gw := gw_sel 3 (by decide +kernel) (by decide +kernel)
theorem ms_Net_lanesOf : Cond.selects RX2 y_Net_lanesOf y_Net_lanesOf ∈ gw := gw_sel 4 (by decide +kernel) (by decide +kernel)
theorem ms_Net_firstDifferingPair : Cond.selects RX2 y_Net_firstDifferingPair y_Net_firstDifferingPair ∈ gw := gw_sel 5 (by decide +kernel) (by decide +kernel)
theorem ms_Net_rowAfter : Cond.selects RX2 y_Net_rowAfter y_Net_rowAfter ∈ gw := gw_sel 6 (by decide +kernel) (by decide +kernel)
theorem ms_Hunt_programWord : Cond.selects RX1 y_Hunt_programWord y_Hunt_programWord ∈ gw := gw_sel 7 (by decide +kernel) (by decide +kernel)
theorem ms_Net_gateCount : Cond.selects RX2 y_Net_gateCount y_Net_gateCount ∈ gw := gw_sel 8 (by decide +kernel) (by decide +kernel)
theorem ms_Net_hasAllStates : Cond.selects RX2 y_Net_hasAllStates y_Net_hasAllStates ∈ gw := gw_sel 10 (by decide +kernel) (by decide +kernel)
theorem ms_Net_hasAllNodes : Cond.selects RX2 y_Net_hasAllNodes y_Net_hasAllNodes ∈ gw := gw_sel 11 (by decide +kernel) (by decide +kernel)
theorem ms_Net_addState : Cond.selects RX2 y_Net_addState y_Net_addState ∈ gw := gw_sel 12 (by decide +kernel) (by decide +kernel)
theorem ms_Net_addNode : Cond.selects RX2 y_Net_addNode y_Net_addNode ∈ gw := gw_sel 13 (by decide +kernel) (by decide +kernel)
theorem ms_BM_startAnew : Cond.selects RX3 y_BM_startAnew y_BM_startAnew ∈ gw := gw_sel 14 (by decide +kernel) (by decide +kernel)
theorem ms_Hunt_forget : Cond.selects RX1 y_Hunt_forget y_Hunt_forget ∈ gw := gw_sel 15 (by decide +kernel) (by decide +kernel)
theorem ms_Net_takesGate : Cond.selects RX2 y_Net_takesGate y_Net_takesGate ∈ gw := gw_sel 16 (by decide +kernel) (by decide +kernel)
theorem ms_Net_isNode : Cond.selects RX2 y_Net_isNode y_Net_isNode ∈ gw := gw_sel 17 (by decide +kernel) (by decide +kernel)
theorem ms_Net_addGate : Cond.selects RX2 y_Net_addGate y_Net_addGate ∈ gw := gw_sel 18 (by decide +kernel) (by decide +kernel)
theorem ms_Net_isState : Cond.selects RX2 y_Net_isState y_Net_isState ∈ gw := gw_sel 19 (by decide +kernel) (by decide +kernel)
theorem ms_Net_changeNext : Cond.selects RX2 y_Net_changeNext y_Net_changeNext ∈ gw := gw_sel 20 (by decide +kernel) (by decide +kernel)
theorem ms_Net_hasAllPairs : Cond.selects RX2 y_Net_hasAllPairs y_Net_hasAllPairs ∈ gw := gw_sel 21 (by decide +kernel) (by decide +kernel)
theorem ms_Net_addPair : Cond.selects RX2 y_Net_addPair y_Net_addPair ∈ gw := gw_sel 22 (by decide +kernel) (by decide +kernel)
theorem ms_Hunt_goOn : Cond.selects RX1 y_Hunt_goOn y_Hunt_goOn ∈ gw := gw_sel 23 (by decide +kernel) (by decide +kernel)
theorem ms_Hunt_start : Cond.selects RX1 y_Hunt_start y_Hunt_start ∈ gw := gw_sel 24 (by decide +kernel) (by decide +kernel)
theorem ms_Hunt_keepIfNew : Cond.selects RX1 y_Hunt_keepIfNew y_Hunt_keepIfNew ∈ gw := gw_sel 25 (by decide +kernel) (by decide +kernel)
theorem ms_Hunt_hasOpenLevel : Cond.selects RX1 y_Hunt_hasOpenLevel y_Hunt_hasOpenLevel ∈ gw := gw_sel 26 (by decide +kernel) (by decide +kernel)
theorem ms_Hunt_rowsOfLevel : Cond.selects RX1 y_Hunt_rowsOfLevel y_Hunt_rowsOfLevel ∈ gw := gw_sel 27 (by decide +kernel) (by decide +kernel)
theorem ms_Hunt_askLevel : Cond.selects RX1 y_Hunt_askLevel y_Hunt_askLevel ∈ gw := gw_sel 28 (by decide +kernel) (by decide +kernel)
theorem ms_Net_leastDifferingWord : Cond.selects RX2 y_Net_leastDifferingWord y_Net_leastDifferingWord ∈ gw := gw_sel 29 (by decide +kernel) (by decide +kernel)
theorem ms_Hunt_tellProgram : Cond.selects RX1 y_Hunt_tellProgram y_Hunt_tellProgram ∈ gw := gw_sel 30 (by decide +kernel) (by decide +kernel)
theorem ms_Hunt_gather : Cond.selects RX1 y_Hunt_gather y_Hunt_gather ∈ gw := gw_sel 31 (by decide +kernel) (by decide +kernel)
theorem ms_Hand_truthOf : Cond.selects RX0 y_Hand_truthOf y_Hand_truthOf ∈ gw := gw_sel 32 (by decide +kernel) (by decide +kernel)
theorem ms_Mod_forget : Cond.selects RX4 y_Mod_forget y_Mod_forget ∈ gw := gw_sel 33 (by decide +kernel) (by decide +kernel)
theorem ms_Mod_anew : Cond.selects RX4 y_Mod_anew y_Mod_anew ∈ gw := gw_sel 34 (by decide +kernel) (by decide +kernel)
theorem ms_Mod_beginning : Cond.selects RX4 y_Mod_beginning y_Mod_beginning ∈ gw := gw_sel 35 (by decide +kernel) (by decide +kernel)
theorem ms_Mod_throwing : Cond.selects RX4 y_Mod_throwing y_Mod_throwing ∈ gw := gw_sel 36 (by decide +kernel) (by decide +kernel)
theorem ms_Mod_come : Cond.selects RX4 y_Mod_come y_Mod_come ∈ gw := gw_sel 37 (by decide +kernel) (by decide +kernel)
theorem ms_Mod_isFound : Cond.selects RX4 y_Mod_isFound y_Mod_isFound ∈ gw := gw_sel 38 (by decide +kernel) (by decide +kernel)
theorem ms_Mod_work : Cond.selects RX4 y_Mod_work y_Mod_work ∈ gw := gw_sel 39 (by decide +kernel) (by decide +kernel)
theorem ms_Mod_made : Cond.selects RX4 y_Mod_made y_Mod_made ∈ gw := gw_sel 40 (by decide +kernel) (by decide +kernel)
theorem ms_Mod_difference : Cond.selects RX4 y_Mod_difference y_Mod_difference ∈ gw := gw_sel 41 (by decide +kernel) (by decide +kernel)
theorem ms_Mod_goThrough : Cond.selects RX4 y_Mod_goThrough y_Mod_goThrough ∈ gw := gw_sel 42 (by decide +kernel) (by decide +kernel)
theorem ms_Mod_after : Cond.selects RX4 y_Mod_after y_Mod_after ∈ gw := gw_sel 43 (by decide +kernel) (by decide +kernel)
theorem in_X0 : ∀ w ∈ u_ws RX0 TX0 6, w ∈ gw := by decide +kernel
theorem in_X1 : ∀ w ∈ u_ws RX1 TX1 10, w ∈ gw := by decide +kernel
theorem in_X2 : ∀ w ∈ u_ws RX2 TX2 13, w ∈ gw := by decide +kernel
theorem in_X3 : ∀ w ∈ u_ws RX3 TX3 3, w ∈ gw := by decide +kernel
theorem in_X4 : ∀ w ∈ u_ws RX4 TX4 31, w ∈ gw := by decide +kernel
end
section
/-- links to private members of a nest mate -/
def nwl : List Cond := [(Cond.methodLinkNest RX3 15 y_Net_init "BoundedMachines"), (Cond.fieldLinkNest RX3 147 "BoundedMachines$Net" "wordBits" "I" "BoundedMachines"), (Cond.fieldLinkNest RX0 41 "BoundedMachines$Net" "wordCount" "I" "BoundedMachines"), (Cond.fieldLinkNest RX1 89 "BoundedMachines$Net" "wordCount" "I" "BoundedMachines"), (Cond.fieldLinkNest RX3 150 "BoundedMachines$Net" "nodeCount" "I" "BoundedMachines"), (Cond.fieldLinkNest RX3 153 "BoundedMachines$Net" "stateCount" "I" "BoundedMachines"), (Cond.fieldLinkNest RX3 156 "BoundedMachines$Net" "statesOfSideOne" "I" "BoundedMachines"), (Cond.fieldLinkNest RX3 101 "BoundedMachines$Net" "pairCount" "I" "BoundedMachines"), (Cond.fieldLinkNest RX0 25 "BoundedMachines$Net" "firstRow" "I" "BoundedMachines"), (Cond.fieldLinkNest RX1 62 "BoundedMachines$Net" "firstRow" "I" "BoundedMachines"), (Cond.methodLinkNest RX3 26 y_Hunt_init "BoundedMachines"), (Cond.fieldLinkNest RX3 128 "BoundedMachines$Hunt" "rowCount" "I" "BoundedMachines"), (Cond.fieldLinkNest RX3 125 "BoundedMachines$Hunt" "clearLevels" "I" "BoundedMachines"), (Cond.fieldLinkNest RX3 110 "BoundedMachines$Hunt" "programLength" "I" "BoundedMachines"), (Cond.methodLinkNest RX3 35 y_Hand_init "BoundedMachines"), (Cond.fieldLinkNest RX3 163 "BoundedMachines$HandRun" "cycles" "I" "BoundedMachines"), (Cond.fieldLinkNest RX3 166 "BoundedMachines$HandRun" "firstPair" "I" "BoundedMachines"), (Cond.methodLinkNest RX3 136 y_Hand_restart "BoundedMachines"), (Cond.methodLinkNest RX0 37 y_Net_layAsAtFirst "BoundedMachines"), (Cond.methodLinkNest RX3 139 y_Hand_step "BoundedMachines"), (Cond.methodLinkNest RX0 44 y_Net_settle "BoundedMachines"), (Cond.methodLinkNest RX0 48 y_Net_firstDifferingPair "BoundedMachines"), (Cond.methodLinkNest RX0 52 y_Net_rowAfter "BoundedMachines"), (Cond.methodLinkNest RX3 121 y_Hunt_programWord "BoundedMachines"), (Cond.methodLinkNest RX3 159 y_Net_gateCount "BoundedMachines"), (Cond.methodLinkNest RX3 47 y_Net_hasAllStates "BoundedMachines"), (Cond.methodLinkNest RX3 51 y_Net_hasAllNodes "BoundedMachines"), (Cond.methodLinkNest RX3 59 y_Net_addState "BoundedMachines"), (Cond.methodLinkNest RX3 169 y_Hunt_forget "BoundedMachines"), (Cond.methodLinkNest RX3 66 y_Net_takesGate "BoundedMachines"), (Cond.methodLinkNest RX3 74 y_Net_addGate "BoundedMachines"), (Cond.methodLinkNest RX3 78 y_Net_isState "BoundedMachines"), (Cond.methodLinkNest RX3 82 y_Net_isNode "BoundedMachines"), (Cond.methodLinkNest RX3 87 y_Net_changeNext "BoundedMachines"), (Cond.methodLinkNest RX3 92 y_Net_hasAllPairs "BoundedMachines"), (Cond.methodLinkNest RX3 97 y_Net_addPair "BoundedMachines"), (Cond.methodLinkNest RX3 107 y_Hunt_goOn "BoundedMachines"), (Cond.methodLinkNest RX1 73 y_Net_settle "BoundedMachines"), (Cond.methodLinkNest RX1 77 y_Net_leastDifferingWord "BoundedMachines"), (Cond.methodLinkNest RX1 92 y_Net_rowAfter "BoundedMachines"), (Cond.methodLinkNest RX3 113 y_Hunt_hasOpenLevel "BoundedMachines"), (Cond.methodLinkNest RX3 133 y_Hunt_rowsOfLevel "BoundedMachines"), (Cond.methodLinkNest RX3 144 y_Hand_truthOf "BoundedMachines")]
theorem nl_BM_15 : (Cond.methodLinkNest RX3 15 y_Net_init "BoundedMachines") ∈ nwl := List.mem_of_getElem? (i := 0) rfl
theorem nl_BM_147 : (Cond.fieldLinkNest RX3 147 "BoundedMachines$Net" "wordBits" "I" "BoundedMachines") ∈ nwl := List.mem_of_getElem? (i := 1) rfl
theorem nl_Hand_41 : (Cond.fieldLinkNest RX0 41 "BoundedMachines$Net" "wordCount" "I" "BoundedMachines") ∈ nwl := List.mem_of_getElem? (i := 2) rfl
theorem nl_Hunt_89 : (Cond.fieldLinkNest RX1 89 "BoundedMachines$Net" "wordCount" "I" "BoundedMachines") ∈ nwl := List.mem_of_getElem? (i := 3) rfl
theorem nl_BM_150 : (Cond.fieldLinkNest RX3 150 "BoundedMachines$Net" "nodeCount" "I" "BoundedMachines") ∈ nwl := List.mem_of_getElem? (i := 4) rfl
theorem nl_BM_153 : (Cond.fieldLinkNest RX3 153 "BoundedMachines$Net" "stateCount" "I" "BoundedMachines") ∈ nwl := List.mem_of_getElem? (i := 5) rfl
theorem nl_BM_156 : (Cond.fieldLinkNest RX3 156 "BoundedMachines$Net" "statesOfSideOne" "I" "BoundedMachines") ∈ nwl := List.mem_of_getElem? (i := 6) rfl
theorem nl_BM_101 : (Cond.fieldLinkNest RX3 101 "BoundedMachines$Net" "pairCount" "I" "BoundedMachines") ∈ nwl := List.mem_of_getElem? (i := 7) rfl
theorem nl_Hand_25 : (Cond.fieldLinkNest RX0 25 "BoundedMachines$Net" "firstRow" "I" "BoundedMachines") ∈ nwl := List.mem_of_getElem? (i := 8) rfl
theorem nl_Hunt_62 : (Cond.fieldLinkNest RX1 62 "BoundedMachines$Net" "firstRow" "I" "BoundedMachines") ∈ nwl := List.mem_of_getElem? (i := 9) rfl
theorem nl_BM_26 : (Cond.methodLinkNest RX3 26 y_Hunt_init "BoundedMachines") ∈ nwl := List.mem_of_getElem? (i := 10) rfl
theorem nl_BM_128 : (Cond.fieldLinkNest RX3 128 "BoundedMachines$Hunt" "rowCount" "I" "BoundedMachines") ∈ nwl := List.mem_of_getElem? (i := 11) rfl
theorem nl_BM_125 : (Cond.fieldLinkNest RX3 125 "BoundedMachines$Hunt" "clearLevels" "I" "BoundedMachines") ∈ nwl := List.mem_of_getElem? (i := 12) rfl
theorem nl_BM_110 : (Cond.fieldLinkNest RX3 110 "BoundedMachines$Hunt" "programLength" "I" "BoundedMachines") ∈ nwl := List.mem_of_getElem? (i := 13) rfl
theorem nl_BM_35 : (Cond.methodLinkNest RX3 35 y_Hand_init "BoundedMachines") ∈ nwl := List.mem_of_getElem? (i := 14) rfl
theorem nl_BM_163 : (Cond.fieldLinkNest RX3 163 "BoundedMachines$HandRun" "cycles" "I" "BoundedMachines") ∈ nwl := List.mem_of_getElem? (i := 15) rfl
theorem nl_BM_166 : (Cond.fieldLinkNest RX3 166 "BoundedMachines$HandRun" "firstPair" "I" "BoundedMachines") ∈ nwl := List.mem_of_getElem? (i := 16) rfl
theorem nl_BM_136 : (Cond.methodLinkNest RX3 136 y_Hand_restart "BoundedMachines") ∈ nwl := List.mem_of_getElem? (i := 17) rfl
theorem nl_Hand_37 : (Cond.methodLinkNest RX0 37 y_Net_layAsAtFirst "BoundedMachines") ∈ nwl := List.mem_of_getElem? (i := 18) rfl
theorem nl_BM_139 : (Cond.methodLinkNest RX3 139 y_Hand_step "BoundedMachines") ∈ nwl := List.mem_of_getElem? (i := 19) rfl
theorem nl_Hand_44 : (Cond.methodLinkNest RX0 44 y_Net_settle "BoundedMachines") ∈ nwl := List.mem_of_getElem? (i := 20) rfl
theorem nl_Hand_48 : (Cond.methodLinkNest RX0 48 y_Net_firstDifferingPair "BoundedMachines") ∈ nwl := List.mem_of_getElem? (i := 21) rfl
theorem nl_Hand_52 : (Cond.methodLinkNest RX0 52 y_Net_rowAfter "BoundedMachines") ∈ nwl := List.mem_of_getElem? (i := 22) rfl
theorem nl_BM_121 : (Cond.methodLinkNest RX3 121 y_Hunt_programWord "BoundedMachines") ∈ nwl := List.mem_of_getElem? (i := 23) rfl
theorem nl_BM_159 : (Cond.methodLinkNest RX3 159 y_Net_gateCount "BoundedMachines") ∈ nwl := List.mem_of_getElem? (i := 24) rfl
theorem nl_BM_47 : (Cond.methodLinkNest RX3 47 y_Net_hasAllStates "BoundedMachines") ∈ nwl := List.mem_of_getElem? (i := 25) rfl
theorem nl_BM_51 : (Cond.methodLinkNest RX3 51 y_Net_hasAllNodes "BoundedMachines") ∈ nwl := List.mem_of_getElem? (i := 26) rfl
theorem nl_BM_59 : (Cond.methodLinkNest RX3 59 y_Net_addState "BoundedMachines") ∈ nwl := List.mem_of_getElem? (i := 27) rfl
theorem nl_BM_169 : (Cond.methodLinkNest RX3 169 y_Hunt_forget "BoundedMachines") ∈ nwl := List.mem_of_getElem? (i := 28) rfl
theorem nl_BM_66 : (Cond.methodLinkNest RX3 66 y_Net_takesGate "BoundedMachines") ∈ nwl := List.mem_of_getElem? (i := 29) rfl
theorem nl_BM_74 : (Cond.methodLinkNest RX3 74 y_Net_addGate "BoundedMachines") ∈ nwl := List.mem_of_getElem? (i := 30) rfl
theorem nl_BM_78 : (Cond.methodLinkNest RX3 78 y_Net_isState "BoundedMachines") ∈ nwl := List.mem_of_getElem? (i := 31) rfl
theorem nl_BM_82 : (Cond.methodLinkNest RX3 82 y_Net_isNode "BoundedMachines") ∈ nwl := List.mem_of_getElem? (i := 32) rfl
theorem nl_BM_87 : (Cond.methodLinkNest RX3 87 y_Net_changeNext "BoundedMachines") ∈ nwl := List.mem_of_getElem? (i := 33) rfl
theorem nl_BM_92 : (Cond.methodLinkNest RX3 92 y_Net_hasAllPairs "BoundedMachines") ∈ nwl := List.mem_of_getElem? (i := 34) rfl
theorem nl_BM_97 : (Cond.methodLinkNest RX3 97 y_Net_addPair "BoundedMachines") ∈ nwl := List.mem_of_getElem? (i := 35) rfl
theorem nl_BM_107 : (Cond.methodLinkNest RX3 107 y_Hunt_goOn "BoundedMachines") ∈ nwl := List.mem_of_getElem? (i := 36) rfl
theorem nl_Hunt_73 : (Cond.methodLinkNest RX1 73 y_Net_settle "BoundedMachines") ∈ nwl := List.mem_of_getElem? (i := 37) rfl
theorem nl_Hunt_77 : (Cond.methodLinkNest RX1 77 y_Net_leastDifferingWord "BoundedMachines") ∈ nwl := List.mem_of_getElem? (i := 38) rfl
theorem nl_Hunt_92 : (Cond.methodLinkNest RX1 92 y_Net_rowAfter "BoundedMachines") ∈ nwl := List.mem_of_getElem? (i := 39) rfl
theorem nl_BM_113 : (Cond.methodLinkNest RX3 113 y_Hunt_hasOpenLevel "BoundedMachines") ∈ nwl := List.mem_of_getElem? (i := 40) rfl
theorem nl_BM_133 : (Cond.methodLinkNest RX3 133 y_Hunt_rowsOfLevel "BoundedMachines") ∈ nwl := List.mem_of_getElem? (i := 41) rfl
theorem nl_BM_144 : (Cond.methodLinkNest RX3 144 y_Hand_truthOf "BoundedMachines") ∈ nwl := List.mem_of_getElem? (i := 42) rfl
def bx_isN : Cond → Bool
  | .fieldLinkNest .. => true
  | .methodLinkNest .. => true
  | _ => false
theorem nwl_all : nwl.all bx_isN = true := by decide +kernel
def bx_nw (U : State) : Prop := ∀ w ∈ nwl, va_Nw w U
theorem bx_nw.warm {s U : State} (hW : s.WarmedH U.vm) (h : bx_nw s) : bx_nw U := by
  intro w hw
  have h1 := h w hw
  have h2 : bx_isN w = true := List.all_eq_true.mp nwl_all w hw
  cases w with
  | fieldLinkNest => exact va_Nw.warmF hW h1
  | methodLinkNest => exact va_Nw.warmM hW h1
  | _ => cases h2
theorem bx_nw.same {s U : State} (hv : s.vm = U.vm) (h : bx_nw s) : bx_nw U := by
  intro w hw
  have h1 := h w hw
  have h2 : bx_isN w = true := List.all_eq_true.mp nwl_all w hw
  cases w with
  | fieldLinkNest => exact va_Nw.same rfl hv h1
  | methodLinkNest => exact va_Nw.same rfl hv h1
  | _ => cases h2
/-- the static table of the word bits' lanes -/
def bx_Z (A : Nat → Prop) (U : State) : Prop := ∃ t : Nat, va_Z "BoundedMachines$Net" "LANES_OF_WORD_BITS" "[I" (.ref t) A U U.heap ∧ va_T .int t 4 (fun j => .int (bm_LW j)) A U U.heap
def bx_E (dC : Nat → ClassId) (dI : Nat → Nat → Nat) (cI cZ cJ : ClassId) (A : Nat → Prop) (U : State) : Prop := va_K (dC, dI) vwCl [(cI, .int), (cZ, .boolean), (cJ, .long)] U ∧ bx_nw U ∧ bx_Z A U
section BE
variable {dC : Nat → ClassId} {dI : Nat → Nat → Nat} {cI cZ cJ : ClassId} {A A' : Nat → Prop} {s U : State} {H : Heap} {locs : List Loc} {ws : va_W} {args : Array Value} {R : Room}
theorem bx_E_at (hE : bx_E dC dI cI cZ cJ A s) (hS : va_S A s.heap H locs) (hF : ∀ q, A' q → A q) (hU : U.heap = H) (hW : s.WarmedH U.vm) : bx_E dC dI cI cZ cJ A' U := by
  obtain ⟨h1, h2, t, h3, h4⟩ := hE
  subst hU
  exact ⟨va_K.moved hW.alike h1, h2.warm hW, t, ((h3.moved hW.alike).kept (fun a ha hn => hS.2.1 a ha hn)).narrow hF, ((h4.moved hW.alike).kept (fun a ha hn => hS.2.1 a ha hn)).narrow hF⟩
theorem bx_E_call {g : JFrame} {mk : MethodId} {a : Array Value} (h : bx_E dC dI cI cZ cJ A U) : bx_E dC dI cI cZ cJ A (U.calling g mk a) := by
  obtain ⟨h1, h2, t, h3, h4⟩ := h
  exact ⟨va_K.moved (u := U) (U := U.calling g mk a) (Vm.Alike.refl U.vm) h1, bx_nw.same (s := U) (U := U.calling g mk a) rfl h2, t, va_Z.moved (u := U) (U := U.calling g mk a) (Vm.Alike.refl U.vm) h3, va_T.moved (u := U) (U := U.calling g mk a) (Vm.Alike.refl U.vm) h4⟩
/-- a reading method's start; a writing method's start; what comes back of a world -/
def bx_pR (dC : Nat → ClassId) (dI : Nat → Nat → Nat) (cI cZ cJ : ClassId) (av : List Value) (ws : va_W) : Array Value → State → Prop := va_Pc av (fun U => bx_E dC dI cI cZ cJ (fun _ => False) U ∧ va_P (dC, dI) vwCl ws U.heap)
def bx_pW (dC : Nat → ClassId) (dI : Nat → Nat → Nat) (cI cZ cJ : ClassId) (av : List Value) (ws : va_W) (sz : Nat) : Array Value → State → Prop := va_Pc av (fun U => U.heap.size = sz ∧ bx_E dC dI cI cZ cJ (va_A ws sz) U ∧ va_P (dC, dI) vwCl ws U.heap ∧ va_D (fun _ => True) ws)
def bx_B {S : Type} (dC : Nat → ClassId) (dI : Nat → Nat → Nat) (A : Nat → Prop) (wf : S → va_W) : S → State → Prop := fun u t => va_P (dC, dI) vwCl (wf u) t.heap ∧ va_D A (wf u)
theorem bx_prS {As : List Value} (hE : bx_E dC dI cI cZ cJ A s) (hS : va_S A s.heap H locs) (hP : va_P (dC, dI) vwCl ws H) : PreS s H (bx_pR dC dI cI cZ cJ As ws) As :=
  ⟨fun _ _ _ _ h => ⟨h.1, bx_E_call h.2.1, h.2.2⟩, fun _ hU hW => ⟨rfl, bx_E_at hE hS (fun _ h => h.elim) hU hW, by rw [hU]; exact hP⟩⟩
theorem bx_prV {As : List Value} {b ci q0 : Nat} {q : vw_C} {fs : List Value} (hE : bx_E dC dI cI cZ cJ A s) (hS : va_S A s.heap H locs) (hP : va_P (dC, dI) vwCl ws H) (hc : vwCl[ci]? = some q) (he : ws[q0]? = some (b, .inr (ci, fs))) : PreV s H q.1 b (bx_pR dC dI cI cZ cJ (.ref b :: As) ws) As :=
  ⟨fun _ _ _ _ h => ⟨h.1, bx_E_call h.2.1, h.2.2⟩, va_recv hE.1 hP hc he, fun _ hU hW => ⟨rfl, bx_E_at hE hS (fun _ h => h.elim) hU hW, by rw [hU]; exact hP⟩⟩
theorem bx_pwS {As : List Value} (hE : bx_E dC dI cI cZ cJ A s) (hS : va_S A s.heap H locs) (hP : va_P (dC, dI) vwCl ws H) (hD : va_D A ws) (hF : ∀ q, va_A ws H.size q → A q) : PreS s H (bx_pW dC dI cI cZ cJ As ws H.size) As :=
  ⟨fun _ _ _ _ h => ⟨h.1, h.2.1, bx_E_call h.2.2.1, h.2.2.2⟩, fun _ hU hW => ⟨rfl, by rw [hU], bx_E_at hE hS hF hU hW, by rw [hU]; exact hP, hD.weaken (fun _ _ _ _ => trivial)⟩⟩
theorem bx_pwV {As : List Value} {b ci q0 : Nat} {q : vw_C} {fs : List Value} (hE : bx_E dC dI cI cZ cJ A s) (hS : va_S A s.heap H locs) (hP : va_P (dC, dI) vwCl ws H) (hD : va_D A ws) (hF : ∀ q, va_A ws H.size q → A q) (hc : vwCl[ci]? = some q) (he : ws[q0]? = some (b, .inr (ci, fs))) : PreV s H q.1 b (bx_pW dC dI cI cZ cJ (.ref b :: As) ws H.size) As :=
  ⟨fun _ _ _ _ h => ⟨h.1, h.2.1, bx_E_call h.2.2.1, h.2.2.2⟩, va_recv hE.1 hP hc he, fun _ hU hW => ⟨rfl, by rw [hU], bx_E_at hE hS hF hU hW, by rw [hU]; exact hP, hD.weaken (fun _ _ _ _ => trivial)⟩⟩
variable {own C host : String} {index maxL n : Nat} {y : MethodName} {bytes : ByteArray} {ret : Option FieldType} {rm : Room}
theorem bx_cV (hts : ∀ w ∈ gw, w.before args s = true) (hc : Cond.code y bytes maxL ret ∈ gw) (hl : Cond.methodLink own index y ∈ gw) (hi : Cond.instanceMethod y ∈ gw) (hs : Cond.selects C y y ∈ gw) (hini : Cond.initialized y.cls ∈ gw) (hd : y.cls ≠ "java/lang/invoke/MethodHandle" ∧ y.cls ≠ "java/lang/invoke/VarHandle" ∧ (parseMethodDescriptor y.desc).map (fun d => d.parameters.length) = some n) (hR : rm.frames + 1 ≤ R.frames ∧ 8 + (maxL + 11) + rm.locals ≤ R.locals) :
    CallW R s args own C index y bytes maxL ret (bw y bytes maxL ret) rm rm.cells rm.slots n := ⟨callB_of n hts (bx_good hc) rfl rfl rfl (hts _ hini) (hts _ hl) hd hR, hts _ hi, hts _ hs⟩
theorem bx_cS (hts : ∀ w ∈ gw, w.before args s = true) (hc : Cond.code y bytes maxL ret ∈ gw) (hl : Cond.methodLink own index y ∈ gw) (hi : Cond.static y ∈ gw) (hini : Cond.initialized y.cls ∈ gw) (hd : y.cls ≠ "java/lang/invoke/MethodHandle" ∧ y.cls ≠ "java/lang/invoke/VarHandle" ∧ (parseMethodDescriptor y.desc).map (fun d => d.parameters.length) = some n) (hR : rm.frames + 1 ≤ R.frames ∧ 8 + (maxL + 11) + rm.locals ≤ R.locals) :
    CallB R s args own index y bytes maxL ret (bw y bytes maxL ret) rm rm.cells rm.slots n ∧ (Cond.static y).before args s = true := ⟨callB_of n hts (bx_good hc) rfl rfl rfl (hts _ hini) (hts _ hl) hd hR, hts _ hi⟩
theorem bx_cI (hts : ∀ w ∈ gw, w.before args s = true) (hc : Cond.code y bytes maxL none ∈ gw) (hl : Cond.methodLink own index y ∈ gw) (hi : Cond.instanceMethod y ∈ gw) (hini : Cond.initialized y.cls ∈ gw) (hd : (y.cls ≠ "java/lang/invoke/MethodHandle" ∧ y.cls ≠ "java/lang/invoke/VarHandle" ∧ (parseMethodDescriptor y.desc).map (fun d => d.parameters.length) = some n) ∧ y.name = "<init>") (hR : rm.frames + 1 ≤ R.frames ∧ 8 + (maxL + 11) + rm.locals ≤ R.locals) :
    CallB R s args own index y bytes maxL none (bw y bytes maxL none) rm rm.cells rm.slots n ∧ y.name = "<init>" ∧ (Cond.instanceMethod y).before args s = true := ⟨callB_of n hts (bx_good hc) rfl rfl rfl (hts _ hini) (hts _ hl) hd.1 hR, hd.2, hts _ hi⟩
theorem bx_nV (hts : ∀ w ∈ gw, w.before args s = true) (hN : bx_nw s) (hc : Cond.code y bytes maxL ret ∈ gw) (hl : Cond.methodLinkNest own index y host ∈ nwl) (hi : Cond.instanceMethod y ∈ gw) (hs : Cond.selects C y y ∈ gw) (hini : Cond.initialized y.cls ∈ gw) (hd : y.cls ≠ "java/lang/invoke/MethodHandle" ∧ y.cls ≠ "java/lang/invoke/VarHandle" ∧ (parseMethodDescriptor y.desc).map (fun d => d.parameters.length) = some n) (hR : rm.frames + 1 ≤ R.frames ∧ 8 + (maxL + 11) + rm.locals ≤ R.locals) :
    va_CN R s args own index y host bytes maxL ret (bw y bytes maxL ret) rm rm.cells rm.slots n ∧ (Cond.instanceMethod y).before args s = true ∧ (Cond.selects C y y).before args s = true := ⟨va_cnB n hts (bx_good hc) rfl rfl rfl (hN _ hl) (hts _ hini) hd hR, hts _ hi, hts _ hs⟩
theorem bx_nS (hts : ∀ w ∈ gw, w.before args s = true) (hN : bx_nw s) (hc : Cond.code y bytes maxL ret ∈ gw) (hl : Cond.methodLinkNest own index y host ∈ nwl) (hi : Cond.static y ∈ gw) (hini : Cond.initialized y.cls ∈ gw) (hd : y.cls ≠ "java/lang/invoke/MethodHandle" ∧ y.cls ≠ "java/lang/invoke/VarHandle" ∧ (parseMethodDescriptor y.desc).map (fun d => d.parameters.length) = some n) (hR : rm.frames + 1 ≤ R.frames ∧ 8 + (maxL + 11) + rm.locals ≤ R.locals) :
    va_CN R s args own index y host bytes maxL ret (bw y bytes maxL ret) rm rm.cells rm.slots n ∧ (Cond.static y).before args s = true ∧ True := ⟨va_cnB n hts (bx_good hc) rfl rfl rfl (hN _ hl) (hts _ hini) hd hR, hts _ hi, trivial⟩
theorem bx_nI (hts : ∀ w ∈ gw, w.before args s = true) (hN : bx_nw s) (hc : Cond.code y bytes maxL none ∈ gw) (hl : Cond.methodLinkNest own index y host ∈ nwl) (hi : Cond.instanceMethod y ∈ gw) (hini : Cond.initialized y.cls ∈ gw) (hd : (y.cls ≠ "java/lang/invoke/MethodHandle" ∧ y.cls ≠ "java/lang/invoke/VarHandle" ∧ (parseMethodDescriptor y.desc).map (fun d => d.parameters.length) = some n) ∧ y.name = "<init>") (hR : rm.frames + 1 ≤ R.frames ∧ 8 + (maxL + 11) + rm.locals ≤ R.locals) :
    va_CN R s args own index y host bytes maxL none (bw y bytes maxL none) rm rm.cells rm.slots n ∧ y.name = "<init>" ∧ (Cond.instanceMethod y).before args s = true := ⟨va_cnB n hts (bx_good hc) rfl rfl rfl (hN _ hl) (hts _ hini) hd.1 hR, hd.2, hts _ hi⟩
end BE
section BN
variable {p : Program} {l : Launch} {e : Env} {R : Room} {s : State} {m : MethodId} {args : Array Value} {below : List Frame} {meth : Method} {c : Code} {H : Heap} {locs : List Loc} {cells slots : Nat} {Q : State → Prop}
variable {cc : ByteArray} {pc : Nat} {ls : Array Slot} {rest : List Value} {A A0 : Nat → Prop} {ws : va_W} {H0 : Heap} {dC : Nat → ClassId} {dI : Nat → Nat → Nat} {cI cZ cJ : ClassId}
/-- a new array of ints -/
theorem bx_newa (hexec : p.tables.exec = Jvm.exec) (hb : c.code = cc) {atype : ArrayType} (hat : newarray.typeOf atype = .int) (harr : (Cond.arrayClass .int).before args s = true) (hE : bx_E dC dI cI cZ cJ A0 s) (hP : va_P (dC, dI) vwCl ws H) (hD : va_D A ws) (hS : va_S A H0 H locs) (hA : ∀ q, H0.size ≤ q → A q)
    {n : Int32} {N' : Nat} (hi : n = nI N') (hN : N' ≤ 134217728) (hcells : cells + 1 ≤ R.cells) (hslots : slots + N' ≤ R.slots) (hdg : decode cc pc = .ok (.newarray atype, 2))
    (kk : ∀ (q : Nat) (H1 : Heap), va_P (dC, dI) vwCl (ws ++ [(q, .inl (cI, N', .inl (fun _ => nI 0)))]) H1 → va_D A (ws ++ [(q, .inl (cI, N', .inl (fun _ => nI 0)))]) → va_S A H0 H1 locs →
      W p l e R s m args below meth c H1 locs (cells + 1) (slots + N') Q (F0 m (pc + 2) ls (.ref q :: rest))) : W p l e R s m args below meth c H locs cells slots Q (F0 m pc ls (.int n :: rest)) := by
  subst hi
  refine va_newa (a0 := (N', .inl (fun _ => nI 0))) (ty := .int) hexec hb (by rw [hat]; exact harr) hat hE.1 hP hD hS hA (fun _ => rfl) (nI_pos (by omega)) (nI_clamp (by omega)) (by show N' * 4 ≤ 536870912; omega) hcells hslots hdg (fun q cA H1 hK1 hP1 hD1 hS1 => ?_)
  have h1 : s.vm.findClass ("[" ++ FieldType.int.toString) = some cA := (hK1.2 3 (cA, .int) rfl).2
  have h2 : s.vm.findClass ("[" ++ FieldType.int.toString) = some cI := (hE.1.2 0 (cI, .int) rfl).2
  obtain rfl : cI = cA := Option.some.inj (h2.symm.trans h1)
  exact kk q H1 hP1 hD1 hS1
end BN
end
section
-- ===== searching, as the document has it =====
/-- so many different numbers below M are at most M -/
theorem bs_ph : ∀ (M c : Nat) (f : Nat → Nat), (∀ i, i < c → f i < M) → (∀ i j, i < c → j < c → f i = f j → i = j) → c ≤ M
  | 0, c, f, h, _ => by
    rcases Nat.eq_zero_or_pos c with q | q
    · omega
    · exact absurd (h 0 q) (Nat.not_lt_zero _)
  | M + 1, c, f, h, hi => by
    by_cases q : ∃ i, i < c ∧ f i = M
    · obtain ⟨i0, h0, e0⟩ := q
      have h1 : c - 1 ≤ M := by
        refine bs_ph M (c - 1) (fun j => if j = i0 then f (c - 1) else f j) (fun j hj => ?_) (fun a b ha hb e => ?_)
        · show (if j = i0 then f (c - 1) else f j) < M
          by_cases z : j = i0
          · rw [if_pos z]
            have h2 := h (c - 1) (by omega)
            have h3 : f (c - 1) ≠ M := fun e => by
              have := hi (c - 1) i0 (by omega) h0 (by rw [e, e0])
              omega
            omega
          · rw [if_neg z]
            have h2 := h j (by omega)
            have h3 : f j ≠ M := fun e => z (hi j i0 (by omega) h0 (by rw [e, e0]))
            omega
        · have e : (if a = i0 then f (c - 1) else f a) = (if b = i0 then f (c - 1) else f b) := e
          by_cases za : a = i0
          · by_cases zb : b = i0
            · omega
            · rw [if_pos za, if_neg zb] at e
              have := hi (c - 1) b (by omega) (by omega) e
              omega
          · by_cases zb : b = i0
            · rw [if_neg za, if_pos zb] at e
              have := hi a (c - 1) (by omega) (by omega) e
              omega
            · rw [if_neg za, if_neg zb] at e
              exact hi a b (by omega) (by omega) e
      omega
    · exact Nat.le_succ_of_le (bs_ph M c f (fun i hi2 => by
        have h2 := h i hi2
        have h3 : f i ≠ M := fun e => q ⟨i, hi2, e⟩
        omega) hi)
def bs_has (rows : Nat → Nat) (c r : Nat) : Bool := bn_any (fun j => rows j == r) c
theorem bs_has_iff (rows : Nat → Nat) (c r : Nat) : bs_has rows c r = true ↔ ∃ j, j < c ∧ rows j = r := by
  unfold bs_has
  rw [bn_any_iff]
  constructor
  · rintro ⟨i, h1, h2⟩
    exact ⟨i, h1, by simpa using h2⟩
  · rintro ⟨i, h1, h2⟩
    exact ⟨i, h1, by simpa using h2⟩
/-- rows so far: how many, which, and of what each came (its row's place times sixteen, and the word) -/
abbrev bs_T : Type := Nat × (Nat → Nat) × (Nat → Nat)
def bs_add (x : bs_T) (r o : Nat) : bs_T := if bs_has x.2.1 x.1 r then x else (x.1 + 1, va_up x.2.1 x.1 r, va_up x.2.2 x.1 o)
/-- what comes of the row r at a place, by the first words -/
def bs_ws (stp : Nat → Nat → Nat) (x : bs_T) (pl r : Nat) : Nat → bs_T
  | 0 => x
  | w + 1 => bs_add (bs_ws stp x pl r w) (stp r w) (pl * 16 + w)
/-- what comes of the first rows of a level -/
def bs_rs (stp : Nat → Nat → Nat) (nw : Nat) (x : bs_T) (fro : Nat) : Nat → bs_T
  | 0 => x
  | k + 1 => bs_ws stp (bs_rs stp nw x fro k) (fro + k) (x.2.1 (fro + k)) nw
/-- k levels are clear: the rows, and where each level begins -/
def bs_L (stp : Nat → Nat → Nat) (nw fr : Nat) : Nat → bs_T × (Nat → Nat)
  | 0 => ((1, fun _ => fr, fun _ => 0), fun k => if k = 0 then 0 else 1)
  | k + 1 => (bs_rs stp nw (bs_L stp nw fr k).1 ((bs_L stp nw fr k).2 k) ((bs_L stp nw fr k).2 (k + 1) - (bs_L stp nw fr k).2 k), va_up (bs_L stp nw fr k).2 (k + 2) (bs_rs stp nw (bs_L stp nw fr k).1 ((bs_L stp nw fr k).2 k) ((bs_L stp nw fr k).2 (k + 1) - (bs_L stp nw fr k).2 k)).1)
/-- good rows: all below M, no two alike -/
def bs_ok (M : Nat) (x : bs_T) : Prop := (∀ i, i < x.1 → x.2.1 i < M) ∧ ∀ i j, i < x.1 → j < x.1 → x.2.1 i = x.2.1 j → i = j
theorem bs_ok_le {M : Nat} {x : bs_T} (h : bs_ok M x) : x.1 ≤ M := bs_ph M x.1 x.2.1 h.1 h.2
/-- y goes on where x ends -/
def bs_ext (x y : bs_T) : Prop := x.1 ≤ y.1 ∧ ∀ i, i < x.1 → y.2.1 i = x.2.1 i ∧ y.2.2 i = x.2.2 i
theorem bs_ext_rf (x : bs_T) : bs_ext x x := ⟨Nat.le_refl _, fun _ _ => ⟨rfl, rfl⟩⟩
theorem bs_ext_tr {x y z : bs_T} (h1 : bs_ext x y) (h2 : bs_ext y z) : bs_ext x z := ⟨Nat.le_trans h1.1 h2.1, fun i hi => ⟨(h2.2 i (Nat.lt_of_lt_of_le hi h1.1)).1.trans (h1.2 i hi).1, (h2.2 i (Nat.lt_of_lt_of_le hi h1.1)).2.trans (h1.2 i hi).2⟩⟩
theorem bs_add_ext (x : bs_T) (r o : Nat) : bs_ext x (bs_add x r o) := by
  unfold bs_add
  by_cases h : bs_has x.2.1 x.1 r = true
  · rw [if_pos h]
    exact bs_ext_rf x
  · rw [if_neg h]
    exact ⟨Nat.le_succ _, fun i hi => ⟨va_up_ne _ _ (by omega), va_up_ne _ _ (by omega)⟩⟩
theorem bs_add_ok {M : Nat} {x : bs_T} {r : Nat} (o : Nat) (h : bs_ok M x) (hr : r < M) : bs_ok M (bs_add x r o) := by
  unfold bs_add
  by_cases q : bs_has x.2.1 x.1 r = true
  · rw [if_pos q]
    exact h
  · rw [if_neg q]
    have hno : ∀ i, i < x.1 → x.2.1 i ≠ r := fun i hi e => q ((bs_has_iff _ _ _).mpr ⟨i, hi, e⟩)
    refine ⟨fun i hi => ?_, fun i j hi hj e => ?_⟩
    · have hi : i < x.1 + 1 := hi
      show va_up x.2.1 x.1 r i < M
      by_cases z : i = x.1
      · rw [z, va_up_self]
        exact hr
      · rw [va_up_ne _ _ z]
        exact h.1 i (by omega)
    · have hi : i < x.1 + 1 := hi
      have hj : j < x.1 + 1 := hj
      have e : va_up x.2.1 x.1 r i = va_up x.2.1 x.1 r j := e
      by_cases zi : i = x.1
      · by_cases zj : j = x.1
        · omega
        · rw [zi, va_up_self, va_up_ne _ _ zj] at e
          exact absurd e.symm (hno j (by omega))
      · by_cases zj : j = x.1
        · rw [zj, va_up_self, va_up_ne _ _ zi] at e
          exact absurd e (hno i (by omega))
        · rw [va_up_ne _ _ zi, va_up_ne _ _ zj] at e
          exact h.2 i j (by omega) (by omega) e
theorem bs_ws_ext (stp : Nat → Nat → Nat) (x : bs_T) (pl r : Nat) : ∀ w, bs_ext x (bs_ws stp x pl r w)
  | 0 => bs_ext_rf x
  | w + 1 => bs_ext_tr (bs_ws_ext stp x pl r w) (bs_add_ext _ _ _)
theorem bs_ws_ok {M : Nat} {stp : Nat → Nat → Nat} {x : bs_T} (pl r : Nat) (h : bs_ok M x) (hs : ∀ w, stp r w < M) : ∀ w, bs_ok M (bs_ws stp x pl r w)
  | 0 => h
  | w + 1 => bs_add_ok _ (bs_ws_ok pl r h hs w) (hs w)
theorem bs_rs_ext (stp : Nat → Nat → Nat) (nw : Nat) (x : bs_T) (fro : Nat) : ∀ k, bs_ext x (bs_rs stp nw x fro k)
  | 0 => bs_ext_rf x
  | k + 1 => bs_ext_tr (bs_rs_ext stp nw x fro k) (bs_ws_ext _ _ _ _ _)
theorem bs_rs_ok {M : Nat} {stp : Nat → Nat → Nat} {nw : Nat} {x : bs_T} (fro : Nat) (h : bs_ok M x) (hs : ∀ r w, stp r w < M) : ∀ k, bs_ok M (bs_rs stp nw x fro k)
  | 0 => h
  | k + 1 => bs_ws_ok _ _ (bs_rs_ok fro h hs k) (fun w => hs _ w) _
theorem bs_L_1 (stp : Nat → Nat → Nat) (nw fr k : Nat) : (bs_L stp nw fr (k + 1)).1 = bs_rs stp nw (bs_L stp nw fr k).1 ((bs_L stp nw fr k).2 k) ((bs_L stp nw fr k).2 (k + 1) - (bs_L stp nw fr k).2 k) := rfl
theorem bs_L_2 (stp : Nat → Nat → Nat) (nw fr k : Nat) : (bs_L stp nw fr (k + 1)).2 = va_up (bs_L stp nw fr k).2 (k + 2) (bs_L stp nw fr (k + 1)).1.1 := rfl
/-- what holds of the rows behind k clear levels -/
theorem bs_L_ok {M : Nat} {stp : Nat → Nat → Nat} {nw fr : Nat} (hf : fr < M) (hs : ∀ r w, stp r w < M) : ∀ k, bs_ok M (bs_L stp nw fr k).1 ∧ (bs_L stp nw fr k).2 (k + 1) = (bs_L stp nw fr k).1.1 ∧ (bs_L stp nw fr k).2 0 = 0 ∧ (∀ i, i ≤ k → (bs_L stp nw fr k).2 i ≤ (bs_L stp nw fr k).2 (i + 1))
  | 0 => by
    refine ⟨⟨fun i _ => hf, fun i j hi hj _ => ?_⟩, rfl, rfl, fun i hi => ?_⟩
    · have hi : i < 1 := hi
      have hj : j < 1 := hj
      omega
    · rw [show i = 0 by omega]
      exact Nat.zero_le _
  | k + 1 => by
    obtain ⟨h1, h2, h3, h4⟩ := bs_L_ok (nw := nw) hf hs k
    have h5 := (bs_rs_ext stp nw (bs_L stp nw fr k).1 ((bs_L stp nw fr k).2 k) ((bs_L stp nw fr k).2 (k + 1) - (bs_L stp nw fr k).2 k)).1
    rw [← bs_L_1] at h5
    refine ⟨bs_rs_ok _ h1 hs _, ?_, ?_, fun i hi => ?_⟩
    · rw [bs_L_2, va_up_self]
    · rw [bs_L_2, va_up_ne _ _ (by omega)]
      exact h3
    · rw [bs_L_2, va_up_ne _ _ (show i ≠ k + 2 by omega)]
      by_cases z : i = k + 1
      · rw [z, va_up_self]
        exact Nat.le_trans (Nat.le_of_eq h2) h5
      · rw [va_up_ne _ _ (show i + 1 ≠ k + 2 by omega)]
        exact h4 i (by omega)
theorem bn_org {a w : Nat} (ha : a < 1048576) (hw : w < 16) : nI a <<< (nI 4 &&& 31) ||| nI w = nI (a * 16 + w) := by
  rw [pk_shlN _ 4 (s_l 4 (by decide)) (by omega), bn_or]
  have h1 := Nat.two_pow_add_eq_or_of_lt (i := 4) (b := w) (by omega) a
  rw [show a * 2 ^ 4 = 2 ^ 4 * a by omega, ← h1]
theorem bs_has_up (rows : Nat → Nat) (c r q : Nat) : bs_has (va_up rows c r) (c + 1) q = (bs_has rows c q || decide (q = r)) := by
  show (bn_any (fun j => va_up rows c r j == q) c || (va_up rows c r c == q)) = _
  rw [va_up_self, bn_any_ext (g := fun j => rows j == q) c (fun i hi => by rw [va_up_ne _ _ (by omega)])]
  congr 1
  rw [Bool.eq_iff_iff]
  simp only [beq_iff_eq, decide_eq_true_eq]
  exact ⟨fun h => h.symm, fun h => h.symm⟩
theorem bs_add_in (x : bs_T) (r o : Nat) (h : bs_has x.2.1 x.1 r = true) : bs_add x r o = x := if_pos h
theorem bs_add_new (x : bs_T) (r o : Nat) (h : bs_has x.2.1 x.1 r = false) : bs_add x r o = (x.1 + 1, va_up x.2.1 x.1 r, va_up x.2.2 x.1 o) := if_neg (by rw [h]; decide)
/-- a new row finds room -/
theorem bs_room {M : Nat} {x : bs_T} {r : Nat} (h : bs_ok M x) (hr : r < M) (hn : bs_has x.2.1 x.1 r = false) : x.1 < M := by
  have h1 := bs_ok_le (bs_add_ok 0 h hr)
  rw [bs_add_new x r 0 hn] at h1
  exact h1
/-- the rows, with what the set says of them -/
def bs_kn (M : Nat) (kn : Nat → Int32) (x : bs_T) : Prop := ∀ q, q < M → bn_in kn q = bs_has x.2.1 x.1 q
theorem bs_kn_up {M : Nat} {kn : Nat → Int32} {x : bs_T} (r o : Nat) (h : bs_kn M kn x) (hn : bs_has x.2.1 x.1 r = false) : bs_kn M (upd kn (r / 32) (kn (r / 32) ||| nI 1 <<< (nI (r % 32) &&& 31))) (bs_add x r o) := by
  intro q hq
  rw [bs_add_new x r o hn, bn_in_put, h q hq]
  exact (bs_has_up _ _ _ _).symm
/-- back along the rows that a row came of -/
def bs_pa (og : Nat → Nat) (a : Nat) : Nat → Nat
  | 0 => a
  | i + 1 => og (bs_pa og a i) / 16
theorem bs_pa_le {og : Nat → Nat} {c a : Nat} (h : ∀ j, j < c → og j / 16 ≤ j) (ha : a < c) : ∀ i, bs_pa og a i ≤ a
  | 0 => Nat.le_refl _
  | i + 1 => Nat.le_trans (h _ (Nat.lt_of_le_of_lt (bs_pa_le h ha i) ha)) (bs_pa_le h ha i)
/-- the program that ends at the place a of level cl with the word w, read back -/
def bs_pg (og : Nat → Nat) (a w cl k : Nat) : Nat := if k = cl then w else og (bs_pa og a (cl - 1 - k)) % 16
theorem bn_and15 (x : Nat) : nI x &&& nI 15 = nI (x % 16) := by
  rw [nx_and]
  exact congrArg nI (Nat.and_two_pow_sub_one_eq_mod x 4)
theorem bn_shr4 {x : Nat} (h : x < 2147483648) : nI x >>> (nI 4 &&& 31) = nI (x / 16) := pk_shrN (by omega) _ 4 (s_l 4 (by decide))
theorem bn_m1 (j : Nat) : nI (j + 1) - nI 1 = nI j := nI_pred j
theorem bn_neg : nI 0 - nI 1 < 0 := by decide +kernel
theorem bn_dec (j : Nat) : nI j + Int32.ofInt (-1) = nI j - nI 1 := by
  rw [Int32.sub_eq_add_neg]
  rfl
/-- the row that comes of r by the word w; whether the machines differ there -/
def bm_stp (n sc : Nat) (kd lf rt nx : Nat → Nat) (r w : Nat) : Nat := bn_row (fun s => bm_vals kd lf rt (fun t => r.testBit t) w n (nx s)) sc
def bm_dif (n np : Nat) (kd lf rt pl pr : Nat → Nat) (r w : Nat) : Bool := bn_any (fun q => bm_vals kd lf rt (fun t => r.testBit t) w n (pl q) ^^ bm_vals kd lf rt (fun t => r.testBit t) w n (pr q)) np
theorem bm_stp_lt (n sc : Nat) (kd lf rt nx : Nat → Nat) (r w : Nat) : bm_stp n sc kd lf rt nx r w < 2 ^ sc := bn_row_lt _ _
theorem bm_stp_ln {n sc : Nat} {kd lf rt nx : Nat → Nat} {r w : Nat} {ln : Nat → Int32} (h : bm_ln kd lf rt r ln n) (hnx : ∀ s, s < sc → nx s < n) (hw : w < 16) : bn_row (fun s => bt (ln (nx s)) w) sc = bm_stp n sc kd lf rt nx r w := bn_row_ext sc (fun s hs => h _ (hnx s hs) w hw)
theorem bm_dif_ln {n np : Nat} {kd lf rt pl pr : Nat → Nat} {r w : Nat} {ln : Nat → Int32} (h : bm_ln kd lf rt r ln n) (hp : ∀ q, q < np → pl q < n ∧ pr q < n) (hw : w < 16) : bn_any (fun q => bt (ln (pl q)) w ^^ bt (ln (pr q)) w) np = bm_dif n np kd lf rt pl pr r w := bn_any_ext np (fun q hq => by rw [h _ (hp q hq).1 w hw, h _ (hp q hq).2 w hw])
theorem bn_ne1 {w : Nat} (hw : w < 2147483648) : ¬ nI w = (-1) := by
  intro h
  have h1 := congrArg Int32.toInt h
  rw [nI_toInt (show w < 2 ^ 31 from hw)] at h1
  have h2 : (-1 : Int32).toInt = -1 := by decide +kernel
  rw [h2] at h1
  omega
end
section
-- ===== the reference's nodes in the words of the net =====
def mo_op (k : Nat) : Int32 := if k = 6 then (-1) else if k = 7 then (-2) else nI k
def mo_l (kd lf : Nat → Nat) (z : Nat) : Nat := if kd z ≤ 5 then lf z else 0
def mo_s (kd lf : Nat → Nat) (z : Nat) : Nat := if kd z = 7 then lf z else 0
def mo_sd (sc s1 z : Nat) : Nat := if z = 0 then sc - s1 else if z = 1 then s1 else 0
def mo_th (a b : Bool) : Nat := if a then 1 else if b then 2 else 0
theorem mo_op6 : ∀ k, k ≤ 7 → (mo_op k = (-1) ↔ k = 6) := by decide +kernel
theorem mo_op7 : ∀ k, k ≤ 7 → (mo_op k = (-2) ↔ k = 7) := by decide +kernel
theorem mo_opk : ∀ k, k ≤ 5 → mo_op k = nI k := by decide +kernel
theorem mo_op5 : ∀ k, k ≤ 5 → (mo_op k = nI 5 ↔ k = 5) := by decide +kernel
/-- the truths of the first k nodes lie in tr -/
def mo_tr (kd lf rt : Nat → Nat) (r w : Nat) (tr : Nat → Bool) (k : Nat) : Prop := ∀ j, j < k → tr j = bm_vals kd lf rt (fun s => r.testBit s) w k j
theorem mo_tr_0 (kd lf rt : Nat → Nat) (r w : Nat) (tr : Nat → Bool) : mo_tr kd lf rt r w tr 0 := fun j h => absurd h (Nat.not_lt_zero j)
theorem mo_tr_up {kd lf rt : Nat → Nat} {r w k : Nat} {tr : Nat → Bool} {b : Bool} (h : mo_tr kd lf rt r w tr k) (hb : b = bm_gate (kd k) (lf k) (rt k) (bm_vals kd lf rt (fun s => r.testBit s) w k) (fun s => r.testBit s) w) : mo_tr kd lf rt r w (va_up tr k b) (k + 1) := by
  intro j hj
  by_cases q : j = k
  · subst q
    rw [va_up_self, bm_vals_new]
    exact hb
  · rw [va_up_ne _ _ q, bm_vals_old _ _ _ _ _ _ (by omega)]
    exact h j (by omega)
/-- what is shown before any cycle -/
def mo_fst (kd lf : Nat → Nat) (fr : Nat) (sh : Nat → Bool) (k : Nat) : Prop := ∀ j, j < k → sh j = (decide (kd j = 7) && fr.testBit (lf j))
theorem mo_fst_0 (kd lf : Nat → Nat) (fr : Nat) (sh : Nat → Bool) : mo_fst kd lf fr sh 0 := fun j h => absurd h (Nat.not_lt_zero j)
theorem mo_fst_up {kd lf : Nat → Nat} {fr k : Nat} {sh : Nat → Bool} {b : Bool} (h : mo_fst kd lf fr sh k) (hb : b = (decide (kd k = 7) && fr.testBit (lf k))) : mo_fst kd lf fr (va_up sh k b) (k + 1) := by
  intro j hj
  by_cases q : j = k
  · subst q
    rw [va_up_self]
    exact hb
  · rw [va_up_ne _ _ q]
    exact h j (by omega)
theorem mo_gate_eq {kd l r : Nat} {f g st : Nat → Bool} {w : Nat} (hk : kd ≤ 5) (hl : kd ≤ 3 → f l = g l) (hr : kd ≤ 2 → f r = g r) : bm_gate kd l r f (fun _ => false) 0 = bm_gate kd l r g st w := by
  have h9 : kd = 0 ∨ kd = 1 ∨ kd = 2 ∨ kd = 3 ∨ kd = 4 ∨ kd = 5 := by omega
  rcases h9 with h | h | h | h | h | h
  · simp [bm_gate, h, hl (by omega), hr (by omega)]
  · simp [bm_gate, h, hl (by omega), hr (by omega)]
  · simp [bm_gate, h, hl (by omega), hr (by omega)]
  · simp [bm_gate, h, hl (by omega)]
  · simp [bm_gate, h]
  · simp [bm_gate, h]
end
section
-- ===== throw new X("..") out of the class, nothing written before =====
abbrev bx_up : List String := ["java/lang/RuntimeException", "java/lang/Exception"]
/-- words that are no good ones, by themselves -/
def xwl : List Cond := [.castable "java/lang/IllegalArgumentException" "java/lang/IllegalArgumentException", .castable "java/lang/UnsupportedOperationException" "java/lang/UnsupportedOperationException", .castable "java/lang/IndexOutOfBoundsException" "java/lang/IndexOutOfBoundsException", .declares ⟨"java/lang/RuntimeException", "<init>", "(Ljava/lang/String;)V"⟩, .declares ⟨"java/lang/Exception", "<init>", "(Ljava/lang/String;)V"⟩, .declares ⟨"java/lang/Throwable", "<init>", "(Ljava/lang/String;)V"⟩]
theorem xg_44 : ∀ w ∈ (vx_atS RX3 44 "java/lang/IllegalArgumentException" bx_up).filter goodWord, w ∈ gw := by decide +kernel
theorem xg_58 : ∀ w ∈ (vx_atS RX3 58 "java/lang/UnsupportedOperationException" bx_up).filter goodWord, w ∈ gw := by decide +kernel
theorem xg_120 : ∀ w ∈ (vx_atS RX3 120 "java/lang/IndexOutOfBoundsException" bx_up).filter goodWord, w ∈ gw := by decide +kernel
theorem xb_44 : ∀ w ∈ (vx_atS RX3 44 "java/lang/IllegalArgumentException" bx_up).filter (fun w => !goodWord w), w ∈ xwl := by decide +kernel
theorem xb_58 : ∀ w ∈ (vx_atS RX3 58 "java/lang/UnsupportedOperationException" bx_up).filter (fun w => !goodWord w), w ∈ xwl := by decide +kernel
theorem xb_120 : ∀ w ∈ (vx_atS RX3 120 "java/lang/IndexOutOfBoundsException" bx_up).filter (fun w => !goodWord w), w ∈ xwl := by decide +kernel
theorem xwl_ot : ∀ w ∈ xwl, vx_ot w = true := by decide +kernel
def bx_isX : Cond → Bool
  | .castable .. => true
  | .declares .. => true
  | _ => false
theorem xwl_all : xwl.all bx_isX = true := by decide +kernel
def bx_xw (U : State) : Prop := ∀ w ∈ xwl, va_Nw w U
theorem bx_xw.warm {s U : State} (hW : s.WarmedH U.vm) (h : bx_xw s) : bx_xw U := by
  intro w hw
  have h1 := h w hw
  have h2 : bx_isX w = true := List.all_eq_true.mp xwl_all w hw
  cases w with
  | castable => exact va_Nw.warmC hW h1
  | declares => exact va_tabs rfl (rfl : (s.setVm U.vm).vm = U.vm) (by rw [Cond.declares_setVm hW.alike]; exact h1)
  | _ => cases h2
theorem bx_xw.same {s U : State} (hv : s.vm = U.vm) (h : bx_xw s) : bx_xw U := by
  intro w hw
  have h1 := h w hw
  have h2 : bx_isX w = true := List.all_eq_true.mp xwl_all w hw
  cases w with
  | castable => exact va_Nw.same rfl hv h1
  | declares => exact va_Nw.same rfl hv h1
  | _ => cases h2
def bx_strs : List (Nat × String) := [(42, "a side is 0 or 1"), (56, "no room for another state"), (70, "no such gate, or no such nodes"), (72, "no room for another node"), (85, "no such state, or no such node"), (90, "no such nodes"), (95, "no room for another pair"), (105, "a depth is 1 to 20000"), (118, "no such word"), (131, "no such level"), (142, "no such node")]
/-- what a throw rests on: two statics of Throwable, the texts -/
def bx_x (A : Nat → Prop) (U : State) : Prop := vx_Zq Bundle.tN "UNASSIGNED_STACK" Bundle.steD A U U.heap ∧ vx_Zq Bundle.tN "SUPPRESSED_SENTINEL" Bundle.listD A U U.heap ∧ (∀ q ∈ bx_strs, ∃ a : Nat, vk_R RX3 q.1 q.2 a U) ∧ bx_xw U ∧ va_Nc "java/lang/UnsupportedOperationException" "java/lang/IllegalArgumentException" U
theorem bx_x_at {A A' : Nat → Prop} {s U : State} {H : Heap} {locs : List Loc} (h : bx_x A s) (hS : va_S A s.heap H locs) (hF : ∀ q, A' q → A q) (hU : U.heap = H) (hW : s.WarmedH U.vm) : bx_x A' U := by
  obtain ⟨h1, h2, h3, h4, h5⟩ := h
  subst hU
  exact ⟨((h1.moved hW.alike).kept (fun a ha hn => hS.2.1 a ha hn)).narrow hF, ((h2.moved hW.alike).kept (fun a ha hn => hS.2.1 a ha hn)).narrow hF, fun q hq => (h3 q hq).imp (fun a ha => ha.warm hW), h4.warm hW, h5.moved hW.alike⟩
theorem bx_x_call {A : Nat → Prop} {U : State} {g : JFrame} {mk : MethodId} {a : Array Value} (h : bx_x A U) : bx_x A (U.calling g mk a) := by
  obtain ⟨h1, h2, h3, h4, h5⟩ := h
  exact ⟨vx_Zq.moved (u := U) (U := U.calling g mk a) (Vm.Alike.refl U.vm) h1, vx_Zq.moved (u := U) (U := U.calling g mk a) (Vm.Alike.refl U.vm) h2, fun q hq => (h3 q hq).imp (fun b hb => vk_R.same (u := U) (U := U.calling g mk a) rfl hb), bx_xw.same (s := U) (U := U.calling g mk a) rfl h4, va_Nc.moved (u := U) (U := U.calling g mk a) (Vm.Alike.refl U.vm) h5⟩
def bx_pX (dC : Nat → ClassId) (dI : Nat → Nat → Nat) (cI cZ cJ : ClassId) (av : List Value) (ws : va_W) : Array Value → State → Prop := va_Pc av (fun U => bx_E dC dI cI cZ cJ (fun _ => False) U ∧ bx_x (fun _ => False) U ∧ va_P (dC, dI) vwCl ws U.heap)
theorem bx_pxV {dC : Nat → ClassId} {dI : Nat → Nat → Nat} {cI cZ cJ : ClassId} {A : Nat → Prop} {s : State} {H : Heap} {locs : List Loc} {ws : va_W} {As : List Value} {b ci q0 : Nat} {q : vw_C} {fs : List Value} (hE : bx_E dC dI cI cZ cJ A s) (hX : bx_x A s) (hS : va_S A s.heap H locs) (hP : va_P (dC, dI) vwCl ws H) (hc : vwCl[ci]? = some q) (he : ws[q0]? = some (b, .inr (ci, fs))) : PreV s H q.1 b (bx_pX dC dI cI cZ cJ (.ref b :: As) ws) As :=
  ⟨fun _ _ _ _ h => ⟨h.1, bx_E_call h.2.1, bx_x_call h.2.2.1, h.2.2.2⟩, va_recv hE.1 hP hc he, fun _ hU hW => ⟨rfl, bx_E_at hE hS (fun _ h => h.elim) hU hW, bx_x_at hX hS (fun _ h => h.elim) hU hW, by rw [hU]; exact hP⟩⟩
/-- a call that throws E: what comes of it -/
abbrev bx_qX : Array Value → State → Outcome → State → Prop := va_Qi (fun (_ : Int32) (_ : Unit) => False) (fun _ _ => True) (fun _ => False)
abbrev bx_tX (cls : String) : String → State → State → Prop := vx_X (fun (_ : Unit) => True) (fun E _ _ => E = cls) (fun _ => False)
section BTH
variable {p : Program} {l : Launch} {e : Env} {R : Room} {s : State} {m : MethodId} {args : Array Value} {below : List Frame} {meth : Method} {c : Code}
variable {cc : ByteArray} {pc : Nat} {ls : Array Slot}
theorem bx_thr (hexec : p.tables.exec = Jvm.exec) (hb : c.code = cc) (hl : l.stackTraces = false) {cls text : String} {ik is ic : Nat} (hown : s.vm.findClass RX3 = some m.cls) (hts : ∀ w ∈ gw, w.before args s = true) (hX : bx_x (fun _ => False) s)
    (hfit : Bundle.fit cls = true) (hk : Cond.classLink RX3 ik cls ∈ gw) (hini : Cond.initialized cls ∈ gw) (hat : ∀ w ∈ (vx_atS RX3 ic cls bx_up).filter goodWord, w ∈ gw) (hat2 : ∀ w ∈ (vx_atS RX3 ic cls bx_up).filter (fun w => !goodWord w), w ∈ xwl) (hst : (is, text) ∈ bx_strs)
    (hsize : ls.size = c.maxLocals) (d0 : decode cc pc = .ok (.new ik, 3)) (d3 : decode cc (pc + 3) = .ok (.dup, 1)) (d4 : decode cc (pc + 4) = .ok (.ldc is, 2)) (d6 : decode cc (pc + 6) = .ok (.invokespecial ic, 3)) (d9 : decode cc (pc + 9) = .ok (.athrow, 1))
    (hout : ∀ x ∈ c.exceptionTable.toList, False) (hR : 5 < R.frames ∧ 82 ≤ R.locals ∧ 1 ≤ R.cells ∧ 6 ≤ R.slots) (hlocks : meth.locks = false) :
    W p l e R s m args below meth c s.heap [] 0 0 (vx_MQ below bx_qX (bx_tX cls) args s 1 6 (fun _ => False)) (F0 m pc ls []) := by
  obtain ⟨h1, h2, h3, h4, -⟩ := hX
  obtain ⟨sa, hsa⟩ := h3 _ hst
  refine vx_throwS (names := bx_up) (sa := sa) (text := text) (A := fun _ => False) hexec hb hl hown hfit (by decide +kernel) (hts _ hk) (hts _ hini) hsa (vx_hat (fun w hw => hts w (hat w hw)) hat2 (fun w hw => va_Nw.use (A := args) (List.all_eq_true.mp (show xwl.all Cond.onTables = true by decide +kernel) w hw) (h4 w hw))) (fun w hw => ?_) h1 h2 va_S.rf hsize d0 d3 d4 d6 d9 (fun x hx => (hout x hx).elim) hR.1 hR.2.1 (by omega) (by omega) hlocks (fun t _ hz hk9 => ⟨(), trivial, rfl, hz, fun q hq _ => hk9 q hq⟩) (fun z hz => by cases hz) (by omega) (by omega)
  have hg : ∀ w ∈ gw, vx_ot w = true := fun w h => by
    have h5 := (List.mem_filter.mp h).2
    unfold vx_ot
    rw [h5, Bool.or_true]
  rcases List.mem_cons.mp hw with h | h
  · rw [h]; exact hg _ hk
  · rcases List.mem_cons.mp h with h | h
    · rw [h]; exact hg _ hini
    · by_cases g : goodWord w = true
      · exact hg w (hat w (List.mem_filter.mpr ⟨h, g⟩))
      · exact xwl_ot w (hat2 w (List.mem_filter.mpr ⟨h, by simp [g]⟩))
end BTH
end
