section
-- ===== PART A: goes FIRST, ahead of the names: the tables' words, and 'selects' of the private methods out of them =====
/-- a private method of a class that the tables say can be made, by its rows of tables_1 -/
def lw_okq (q : MethodName × Nat) : Prop := (q.1.cls ≠ "java/lang/invoke/MethodHandle" ∧ q.1.cls ≠ "java/lang/invoke/VarHandle") ∧ Cond.instantiable q.1.cls q.2 ∈ tables_1 ∧ Cond.privateMethod q.1 ∈ tables_1 ∧ Cond.instanceMethod q.1 ∈ tables_1
theorem lw_p0 : lw_okq (⟨"GreatestFlow", "forget", "()V"⟩, 12) := ⟨⟨by decide +kernel, by decide +kernel⟩, List.mem_of_getElem? (i := 10) (by decide +kernel), List.mem_of_getElem? (i := 186) (by decide +kernel), List.mem_of_getElem? (i := 187) (by decide +kernel)⟩
theorem lw_p1 : lw_okq (⟨"GreatestFlow", "hasFlow", "()Z"⟩, 12) := ⟨⟨by decide +kernel, by decide +kernel⟩, List.mem_of_getElem? (i := 10) (by decide +kernel), List.mem_of_getElem? (i := 246) (by decide +kernel), List.mem_of_getElem? (i := 247) (by decide +kernel)⟩
theorem lw_p2 : lw_okq (⟨"GreatestFlow", "layOut", "()V"⟩, 12) := ⟨⟨by decide +kernel, by decide +kernel⟩, List.mem_of_getElem? (i := 10) (by decide +kernel), List.mem_of_getElem? (i := 250) (by decide +kernel), List.mem_of_getElem? (i := 251) (by decide +kernel)⟩
theorem lw_p3 : lw_okq (⟨"GreatestFlow$Net", "addHalf", "(II)V"⟩, 10) := ⟨⟨by decide +kernel, by decide +kernel⟩, List.mem_of_getElem? (i := 70) (by decide +kernel), List.mem_of_getElem? (i := 271) (by decide +kernel), List.mem_of_getElem? (i := 272) (by decide +kernel)⟩
theorem lw_p4 : lw_okq (⟨"GreatestFlow", "layOutEnd", "(II)V"⟩, 12) := ⟨⟨by decide +kernel, by decide +kernel⟩, List.mem_of_getElem? (i := 10) (by decide +kernel), List.mem_of_getElem? (i := 275) (by decide +kernel), List.mem_of_getElem? (i := 276) (by decide +kernel)⟩
theorem lw_p5 : lw_okq (⟨"GreatestFlow$Net", "carry", "(III)I"⟩, 10) := ⟨⟨by decide +kernel, by decide +kernel⟩, List.mem_of_getElem? (i := 70) (by decide +kernel), List.mem_of_getElem? (i := 290) (by decide +kernel), List.mem_of_getElem? (i := 291) (by decide +kernel)⟩
theorem lw_p6 : lw_okq (⟨"GreatestFlow$Net", "reaches", "(II)Z"⟩, 10) := ⟨⟨by decide +kernel, by decide +kernel⟩, List.mem_of_getElem? (i := 70) (by decide +kernel), List.mem_of_getElem? (i := 294) (by decide +kernel), List.mem_of_getElem? (i := 295) (by decide +kernel)⟩
theorem lw_p7 : lw_okq (⟨"GreatestFlow$Net", "endOf", "(I)I"⟩, 10) := ⟨⟨by decide +kernel, by decide +kernel⟩, List.mem_of_getElem? (i := 70) (by decide +kernel), List.mem_of_getElem? (i := 298) (by decide +kernel), List.mem_of_getElem? (i := 299) (by decide +kernel)⟩
theorem lw_p8 : lw_okq (⟨"GreatestFlow$Net", "leftOn", "(I)I"⟩, 10) := ⟨⟨by decide +kernel, by decide +kernel⟩, List.mem_of_getElem? (i := 70) (by decide +kernel), List.mem_of_getElem? (i := 302) (by decide +kernel), List.mem_of_getElem? (i := 303) (by decide +kernel)⟩
theorem lw_p9 : lw_okq (⟨"GreatestFlow$Net", "narrowest", "(I)I"⟩, 10) := ⟨⟨by decide +kernel, by decide +kernel⟩, List.mem_of_getElem? (i := 70) (by decide +kernel), List.mem_of_getElem? (i := 306) (by decide +kernel), List.mem_of_getElem? (i := 307) (by decide +kernel)⟩
theorem lw_p10 : lw_okq (⟨"GreatestFlow$Net", "send", "(II)V"⟩, 10) := ⟨⟨by decide +kernel, by decide +kernel⟩, List.mem_of_getElem? (i := 70) (by decide +kernel), List.mem_of_getElem? (i := 311) (by decide +kernel), List.mem_of_getElem? (i := 312) (by decide +kernel)⟩
theorem lw_p11 : lw_okq (⟨"GreatestFlow", "first", "(I)[I"⟩, 12) := ⟨⟨by decide +kernel, by decide +kernel⟩, List.mem_of_getElem? (i := 10) (by decide +kernel), List.mem_of_getElem? (i := 329) (by decide +kernel), List.mem_of_getElem? (i := 330) (by decide +kernel)⟩
theorem lw_p12 : lw_okq (⟨"GreatestFlow", "helpsAs", "(II)I"⟩, 12) := ⟨⟨by decide +kernel, by decide +kernel⟩, List.mem_of_getElem? (i := 10) (by decide +kernel), List.mem_of_getElem? (i := 369) (by decide +kernel), List.mem_of_getElem? (i := 370) (by decide +kernel)⟩
theorem lw_p13 : lw_okq (⟨"GreatestFlow", "layOutFirstGreatest", "()V"⟩, 12) := ⟨⟨by decide +kernel, by decide +kernel⟩, List.mem_of_getElem? (i := 10) (by decide +kernel), List.mem_of_getElem? (i := 373) (by decide +kernel), List.mem_of_getElem? (i := 374) (by decide +kernel)⟩
theorem lw_p14 : lw_okq (⟨"GreatestFlow", "findBarred", "()V"⟩, 12) := ⟨⟨by decide +kernel, by decide +kernel⟩, List.mem_of_getElem? (i := 10) (by decide +kernel), List.mem_of_getElem? (i := 389) (by decide +kernel), List.mem_of_getElem? (i := 390) (by decide +kernel)⟩
theorem lw_p15 : lw_okq (⟨"GreatestFlow", "splitFirstGreatest", "()V"⟩, 12) := ⟨⟨by decide +kernel, by decide +kernel⟩, List.mem_of_getElem? (i := 10) (by decide +kernel), List.mem_of_getElem? (i := 397) (by decide +kernel), List.mem_of_getElem? (i := 398) (by decide +kernel)⟩
def lw_privs_1 : List (MethodName × Nat) := [(⟨"GreatestFlow", "forget", "()V"⟩, 12), (⟨"GreatestFlow", "hasFlow", "()Z"⟩, 12), (⟨"GreatestFlow", "layOut", "()V"⟩, 12), (⟨"GreatestFlow$Net", "addHalf", "(II)V"⟩, 10), (⟨"GreatestFlow", "layOutEnd", "(II)V"⟩, 12), (⟨"GreatestFlow$Net", "carry", "(III)I"⟩, 10), (⟨"GreatestFlow$Net", "reaches", "(II)Z"⟩, 10), (⟨"GreatestFlow$Net", "endOf", "(I)I"⟩, 10), (⟨"GreatestFlow$Net", "leftOn", "(I)I"⟩, 10), (⟨"GreatestFlow$Net", "narrowest", "(I)I"⟩, 10), (⟨"GreatestFlow$Net", "send", "(II)V"⟩, 10), (⟨"GreatestFlow", "first", "(I)[I"⟩, 12), (⟨"GreatestFlow", "helpsAs", "(II)I"⟩, 12), (⟨"GreatestFlow", "layOutFirstGreatest", "()V"⟩, 12), (⟨"GreatestFlow", "findBarred", "()V"⟩, 12), (⟨"GreatestFlow", "splitFirstGreatest", "()V"⟩, 12)]
theorem lw_r1 : ∀ q ∈ lw_privs_1, lw_okq q := List.forall_mem_cons.mpr ⟨lw_p0, List.forall_mem_cons.mpr ⟨lw_p1, List.forall_mem_cons.mpr ⟨lw_p2, List.forall_mem_cons.mpr ⟨lw_p3, List.forall_mem_cons.mpr ⟨lw_p4, List.forall_mem_cons.mpr ⟨lw_p5, List.forall_mem_cons.mpr ⟨lw_p6, List.forall_mem_cons.mpr ⟨lw_p7, List.forall_mem_cons.mpr ⟨lw_p8, List.forall_mem_cons.mpr ⟨lw_p9, List.forall_mem_cons.mpr ⟨lw_p10, List.forall_mem_cons.mpr ⟨lw_p11, List.forall_mem_cons.mpr ⟨lw_p12, List.forall_mem_cons.mpr ⟨lw_p13, List.forall_mem_cons.mpr ⟨lw_p14, List.forall_mem_cons.mpr ⟨lw_p15, fun _ h => absurd h List.not_mem_nil⟩⟩⟩⟩⟩⟩⟩⟩⟩⟩⟩⟩⟩⟩⟩⟩
theorem lw_p16 : lw_okq (⟨"GreatestFlow$Parts", "leastGiver", "(LGreatestFlow$Graph;)I"⟩, 8) := ⟨⟨by decide +kernel, by decide +kernel⟩, List.mem_of_getElem? (i := 109) (by decide +kernel), List.mem_of_getElem? (i := 411) (by decide +kernel), List.mem_of_getElem? (i := 412) (by decide +kernel)⟩
theorem lw_p17 : lw_okq (⟨"GreatestFlow$Parts", "walk", "(LGreatestFlow$Graph;I)V"⟩, 8) := ⟨⟨by decide +kernel, by decide +kernel⟩, List.mem_of_getElem? (i := 109) (by decide +kernel), List.mem_of_getElem? (i := 415) (by decide +kernel), List.mem_of_getElem? (i := 416) (by decide +kernel)⟩
theorem lw_p18 : lw_okq (⟨"GreatestFlow$Parts", "endStream", "(III)V"⟩, 8) := ⟨⟨by decide +kernel, by decide +kernel⟩, List.mem_of_getElem? (i := 109) (by decide +kernel), List.mem_of_getElem? (i := 420) (by decide +kernel), List.mem_of_getElem? (i := 421) (by decide +kernel)⟩
theorem lw_p19 : lw_okq (⟨"GreatestFlow$Parts", "leastLeft", "(II)I"⟩, 8) := ⟨⟨by decide +kernel, by decide +kernel⟩, List.mem_of_getElem? (i := 109) (by decide +kernel), List.mem_of_getElem? (i := 424) (by decide +kernel), List.mem_of_getElem? (i := 425) (by decide +kernel)⟩
theorem lw_p20 : lw_okq (⟨"GreatestFlow$Parts", "takeFromPath", "(III)V"⟩, 8) := ⟨⟨by decide +kernel, by decide +kernel⟩, List.mem_of_getElem? (i := 109) (by decide +kernel), List.mem_of_getElem? (i := 430) (by decide +kernel), List.mem_of_getElem? (i := 431) (by decide +kernel)⟩
theorem lw_p21 : lw_okq (⟨"GreatestFlow$Parts", "leastArcFrom", "(LGreatestFlow$Graph;I)I"⟩, 8) := ⟨⟨by decide +kernel, by decide +kernel⟩, List.mem_of_getElem? (i := 109) (by decide +kernel), List.mem_of_getElem? (i := 434) (by decide +kernel), List.mem_of_getElem? (i := 435) (by decide +kernel)⟩
theorem lw_p22 : lw_okq (⟨"GreatestFlowModel", "isNode", "(I)Z"⟩, 29) := ⟨⟨by decide +kernel, by decide +kernel⟩, List.mem_of_getElem? (i := 446) (by decide +kernel), List.mem_of_getElem? (i := 548) (by decide +kernel), List.mem_of_getElem? (i := 549) (by decide +kernel)⟩
theorem lw_p23 : lw_okq (⟨"GreatestFlowModel", "isArc", "(I)Z"⟩, 29) := ⟨⟨by decide +kernel, by decide +kernel⟩, List.mem_of_getElem? (i := 446) (by decide +kernel), List.mem_of_getElem? (i := 568) (by decide +kernel), List.mem_of_getElem? (i := 569) (by decide +kernel)⟩
theorem lw_p24 : lw_okq (⟨"GreatestFlowModel", "know", "()V"⟩, 29) := ⟨⟨by decide +kernel, by decide +kernel⟩, List.mem_of_getElem? (i := 446) (by decide +kernel), List.mem_of_getElem? (i := 584) (by decide +kernel), List.mem_of_getElem? (i := 585) (by decide +kernel)⟩
theorem lw_p25 : lw_okq (⟨"GreatestFlowModel", "take", "()V"⟩, 29) := ⟨⟨by decide +kernel, by decide +kernel⟩, List.mem_of_getElem? (i := 446) (by decide +kernel), List.mem_of_getElem? (i := 588) (by decide +kernel), List.mem_of_getElem? (i := 589) (by decide +kernel)⟩
theorem lw_p26 : lw_okq (⟨"GreatestFlowModel", "isThere", "(II)Z"⟩, 29) := ⟨⟨by decide +kernel, by decide +kernel⟩, List.mem_of_getElem? (i := 446) (by decide +kernel), List.mem_of_getElem? (i := 593) (by decide +kernel), List.mem_of_getElem? (i := 594) (by decide +kernel)⟩
theorem lw_p27 : lw_okq (⟨"GreatestFlowModel", "layOut", "(II)V"⟩, 29) := ⟨⟨by decide +kernel, by decide +kernel⟩, List.mem_of_getElem? (i := 446) (by decide +kernel), List.mem_of_getElem? (i := 597) (by decide +kernel), List.mem_of_getElem? (i := 598) (by decide +kernel)⟩
theorem lw_p28 : lw_okq (⟨"GreatestFlowModel", "edge", "(IIII)V"⟩, 29) := ⟨⟨by decide +kernel, by decide +kernel⟩, List.mem_of_getElem? (i := 446) (by decide +kernel), List.mem_of_getElem? (i := 601) (by decide +kernel), List.mem_of_getElem? (i := 602) (by decide +kernel)⟩
theorem lw_p29 : lw_okq (⟨"GreatestFlowModel", "findWay", "()Z"⟩, 29) := ⟨⟨by decide +kernel, by decide +kernel⟩, List.mem_of_getElem? (i := 446) (by decide +kernel), List.mem_of_getElem? (i := 605) (by decide +kernel), List.mem_of_getElem? (i := 606) (by decide +kernel)⟩
theorem lw_p30 : lw_okq (⟨"GreatestFlowModel", "findFirst", "(I)V"⟩, 29) := ⟨⟨by decide +kernel, by decide +kernel⟩, List.mem_of_getElem? (i := 446) (by decide +kernel), List.mem_of_getElem? (i := 609) (by decide +kernel), List.mem_of_getElem? (i := 610) (by decide +kernel)⟩
theorem lw_p31 : lw_okq (⟨"GreatestFlowModel", "greatest", "()I"⟩, 29) := ⟨⟨by decide +kernel, by decide +kernel⟩, List.mem_of_getElem? (i := 446) (by decide +kernel), List.mem_of_getElem? (i := 613) (by decide +kernel), List.mem_of_getElem? (i := 614) (by decide +kernel)⟩
def lw_privs_2 : List (MethodName × Nat) := [(⟨"GreatestFlow$Parts", "leastGiver", "(LGreatestFlow$Graph;)I"⟩, 8), (⟨"GreatestFlow$Parts", "walk", "(LGreatestFlow$Graph;I)V"⟩, 8), (⟨"GreatestFlow$Parts", "endStream", "(III)V"⟩, 8), (⟨"GreatestFlow$Parts", "leastLeft", "(II)I"⟩, 8), (⟨"GreatestFlow$Parts", "takeFromPath", "(III)V"⟩, 8), (⟨"GreatestFlow$Parts", "leastArcFrom", "(LGreatestFlow$Graph;I)I"⟩, 8), (⟨"GreatestFlowModel", "isNode", "(I)Z"⟩, 29), (⟨"GreatestFlowModel", "isArc", "(I)Z"⟩, 29), (⟨"GreatestFlowModel", "know", "()V"⟩, 29), (⟨"GreatestFlowModel", "take", "()V"⟩, 29), (⟨"GreatestFlowModel", "isThere", "(II)Z"⟩, 29), (⟨"GreatestFlowModel", "layOut", "(II)V"⟩, 29), (⟨"GreatestFlowModel", "edge", "(IIII)V"⟩, 29), (⟨"GreatestFlowModel", "findWay", "()Z"⟩, 29), (⟨"GreatestFlowModel", "findFirst", "(I)V"⟩, 29), (⟨"GreatestFlowModel", "greatest", "()I"⟩, 29)]
theorem lw_r2 : ∀ q ∈ lw_privs_2, lw_okq q := List.forall_mem_cons.mpr ⟨lw_p16, List.forall_mem_cons.mpr ⟨lw_p17, List.forall_mem_cons.mpr ⟨lw_p18, List.forall_mem_cons.mpr ⟨lw_p19, List.forall_mem_cons.mpr ⟨lw_p20, List.forall_mem_cons.mpr ⟨lw_p21, List.forall_mem_cons.mpr ⟨lw_p22, List.forall_mem_cons.mpr ⟨lw_p23, List.forall_mem_cons.mpr ⟨lw_p24, List.forall_mem_cons.mpr ⟨lw_p25, List.forall_mem_cons.mpr ⟨lw_p26, List.forall_mem_cons.mpr ⟨lw_p27, List.forall_mem_cons.mpr ⟨lw_p28, List.forall_mem_cons.mpr ⟨lw_p29, List.forall_mem_cons.mpr ⟨lw_p30, List.forall_mem_cons.mpr ⟨lw_p31, fun _ h => absurd h List.not_mem_nil⟩⟩⟩⟩⟩⟩⟩⟩⟩⟩⟩⟩⟩⟩⟩⟩
theorem lw_p32 : lw_okq (⟨"GreatestFlowModel", "lowest", "()I"⟩, 29) := ⟨⟨by decide +kernel, by decide +kernel⟩, List.mem_of_getElem? (i := 446) (by decide +kernel), List.mem_of_getElem? (i := 617) (by decide +kernel), List.mem_of_getElem? (i := 618) (by decide +kernel)⟩
theorem lw_p33 : lw_okq (⟨"GreatestFlowModel", "findStreams", "()V"⟩, 29) := ⟨⟨by decide +kernel, by decide +kernel⟩, List.mem_of_getElem? (i := 446) (by decide +kernel), List.mem_of_getElem? (i := 621) (by decide +kernel), List.mem_of_getElem? (i := 622) (by decide +kernel)⟩
theorem lw_p34 : lw_okq (⟨"GreatestFlowModel", "goes", "(II)I"⟩, 29) := ⟨⟨by decide +kernel, by decide +kernel⟩, List.mem_of_getElem? (i := 446) (by decide +kernel), List.mem_of_getElem? (i := 625) (by decide +kernel), List.mem_of_getElem? (i := 626) (by decide +kernel)⟩
theorem lw_p35 : lw_okq (⟨"GreatestFlowModel", "comes", "(II)I"⟩, 29) := ⟨⟨by decide +kernel, by decide +kernel⟩, List.mem_of_getElem? (i := 446) (by decide +kernel), List.mem_of_getElem? (i := 629) (by decide +kernel), List.mem_of_getElem? (i := 630) (by decide +kernel)⟩
theorem lw_p36 : lw_okq (⟨"GreatestFlowModel", "firstGiver", "()I"⟩, 29) := ⟨⟨by decide +kernel, by decide +kernel⟩, List.mem_of_getElem? (i := 446) (by decide +kernel), List.mem_of_getElem? (i := 633) (by decide +kernel), List.mem_of_getElem? (i := 634) (by decide +kernel)⟩
theorem lw_p37 : lw_okq (⟨"GreatestFlowModel", "walk", "(I)V"⟩, 29) := ⟨⟨by decide +kernel, by decide +kernel⟩, List.mem_of_getElem? (i := 446) (by decide +kernel), List.mem_of_getElem? (i := 637) (by decide +kernel), List.mem_of_getElem? (i := 638) (by decide +kernel)⟩
theorem lw_p38 : lw_okq (⟨"GreatestFlowModel", "nextArc", "(I)I"⟩, 29) := ⟨⟨by decide +kernel, by decide +kernel⟩, List.mem_of_getElem? (i := 446) (by decide +kernel), List.mem_of_getElem? (i := 641) (by decide +kernel), List.mem_of_getElem? (i := 642) (by decide +kernel)⟩
theorem lw_p39 : lw_okq (⟨"GreatestFlowModel", "leastOf", "(II)I"⟩, 29) := ⟨⟨by decide +kernel, by decide +kernel⟩, List.mem_of_getElem? (i := 446) (by decide +kernel), List.mem_of_getElem? (i := 645) (by decide +kernel), List.mem_of_getElem? (i := 646) (by decide +kernel)⟩
theorem lw_p40 : lw_okq (⟨"GreatestFlowModel", "lessen", "(III)V"⟩, 29) := ⟨⟨by decide +kernel, by decide +kernel⟩, List.mem_of_getElem? (i := 446) (by decide +kernel), List.mem_of_getElem? (i := 649) (by decide +kernel), List.mem_of_getElem? (i := 650) (by decide +kernel)⟩
theorem lw_p41 : lw_okq (⟨"GreatestFlowModel", "findBarred", "()V"⟩, 29) := ⟨⟨by decide +kernel, by decide +kernel⟩, List.mem_of_getElem? (i := 446) (by decide +kernel), List.mem_of_getElem? (i := 653) (by decide +kernel), List.mem_of_getElem? (i := 654) (by decide +kernel)⟩
theorem lw_p42 : lw_okq (⟨"GreatestFlowModel", "asKind", "(II)I"⟩, 29) := ⟨⟨by decide +kernel, by decide +kernel⟩, List.mem_of_getElem? (i := 446) (by decide +kernel), List.mem_of_getElem? (i := 676) (by decide +kernel), List.mem_of_getElem? (i := 677) (by decide +kernel)⟩
def lw_privs_3 : List (MethodName × Nat) := [(⟨"GreatestFlowModel", "lowest", "()I"⟩, 29), (⟨"GreatestFlowModel", "findStreams", "()V"⟩, 29), (⟨"GreatestFlowModel", "goes", "(II)I"⟩, 29), (⟨"GreatestFlowModel", "comes", "(II)I"⟩, 29), (⟨"GreatestFlowModel", "firstGiver", "()I"⟩, 29), (⟨"GreatestFlowModel", "walk", "(I)V"⟩, 29), (⟨"GreatestFlowModel", "nextArc", "(I)I"⟩, 29), (⟨"GreatestFlowModel", "leastOf", "(II)I"⟩, 29), (⟨"GreatestFlowModel", "lessen", "(III)V"⟩, 29), (⟨"GreatestFlowModel", "findBarred", "()V"⟩, 29), (⟨"GreatestFlowModel", "asKind", "(II)I"⟩, 29)]
theorem lw_r3 : ∀ q ∈ lw_privs_3, lw_okq q := List.forall_mem_cons.mpr ⟨lw_p32, List.forall_mem_cons.mpr ⟨lw_p33, List.forall_mem_cons.mpr ⟨lw_p34, List.forall_mem_cons.mpr ⟨lw_p35, List.forall_mem_cons.mpr ⟨lw_p36, List.forall_mem_cons.mpr ⟨lw_p37, List.forall_mem_cons.mpr ⟨lw_p38, List.forall_mem_cons.mpr ⟨lw_p39, List.forall_mem_cons.mpr ⟨lw_p40, List.forall_mem_cons.mpr ⟨lw_p41, List.forall_mem_cons.mpr ⟨lw_p42, fun _ h => absurd h List.not_mem_nil⟩⟩⟩⟩⟩⟩⟩⟩⟩⟩⟩
def lw_privs : List (MethodName × Nat) := lw_privs_1 ++ (lw_privs_2 ++ (lw_privs_3))
def lw_tbl : List Cond := k2_sels lw_privs ++ tables_1
theorem lw_privs_ok : ∀ q ∈ lw_privs, lw_okq q := by
  show ∀ q ∈ lw_privs_1 ++ (lw_privs_2 ++ (lw_privs_3)), lw_okq q
  exact List.forall_mem_append.mpr ⟨lw_r1, List.forall_mem_append.mpr ⟨lw_r2, lw_r3⟩⟩

/-! ===== BEGIN words of one list among another's, by their places ===== -/
theorem goodIn_r {big : List Cond} (ws : List Cond) (ps : List Nat) (hp : ws = ps.filterMap (fun i => big[i]?)) (h : ws.all goodWord = true) : GoodIn big ws := by
  intro w hw
  have h1 := List.all_eq_true.mp h w hw
  rw [hp] at hw
  obtain ⟨i, -, hi⟩ := List.mem_filterMap.mp hw
  have hm : w ∈ big := by first | exact List.mem_of_getElem? hi | exact List.getElem?_mem hi
  exact ⟨hm, good_of_word h1⟩
theorem goodIn_app {big a b : List Cond} (ha : GoodIn big a) (hb : GoodIn big b) : GoodIn big (a ++ b) := fun w h => (List.mem_append.mp h).elim (ha w) (hb w)
theorem goodIn_ca {big a b : List Cond} {c : Cond} (ha : GoodIn big (c :: a)) (hb : GoodIn big b) : GoodIn big (c :: (a ++ b)) := fun w h => (List.mem_cons.mp h).elim (fun e => ha w (List.mem_cons.mpr (Or.inl e))) (fun h => (List.mem_append.mp h).elim (fun h => ha w (List.mem_cons.mpr (Or.inr h))) (hb w))
theorem goodIn_sub {big ws : List Cond} (hm : ∀ w ∈ ws, w ∈ big) (h : ws.all goodWord = true) : GoodIn big ws := fun w hw => ⟨hm w hw, good_of_word (List.all_eq_true.mp h w hw)⟩
/-! ===== END ===== -/

/-! ===== BEGIN new T[n][m]: the outer array a place, the inner ones among the pooled ===== -/
/-- f, but v at every address of l -/
def vr_up {α : Type} (f : Nat → α) (l : List Nat) (v : α) : Nat → α := fun a => if a ∈ l then v else f a
theorem vr_up_in {α : Type} {f : Nat → α} {l : List Nat} {v : α} {a : Nat} (h : a ∈ l) : vr_up f l v a = v := if_pos h
theorem vr_up_ne {α : Type} {f : Nat → α} {l : List Nat} {v : α} {a : Nat} (h : a ∉ l) : vr_up f l v a = f a := if_neg h
theorem vr_rows {L l : List Nat} {f : Nat → va_E} {e : va_E} (h : ∀ a, a ∈ l → a ∉ L) : va_pl L f ++ l.map (fun a => (a, e)) = va_pl (L ++ l) (vr_up f l e) := by
  unfold va_pl
  rw [List.map_append]
  congr 1
  · apply List.map_congr_left
    intro a ha
    rw [vr_up_ne (fun q => h a q ha)]
  · apply List.map_congr_left
    intro a ha
    rw [vr_up_in ha]
theorem vr_lay {X rows : va_W} {x : Nat × va_E} {pl : va_W} {D : va_G} {cl : List vw_C} {H : Heap} (hP : va_P D cl (((X ++ pl) ++ [x]) ++ rows) H) : va_P D cl ((X ++ [x]) ++ (pl ++ rows)) H := by
  rw [List.append_assoc (X ++ pl)] at hP
  have h := va_P.swap hP
  rw [← List.append_assoc X] at h
  have h2 := va_P.swap h
  rw [List.append_assoc (X ++ [x])] at h2
  exact h2
theorem vr_layD {X rows : va_W} {x : Nat × va_E} {pl : va_W} {A : Nat → Prop} (hD : va_D A (((X ++ pl) ++ [x]) ++ rows)) : va_D A ((X ++ [x]) ++ (pl ++ rows)) := by
  rw [List.append_assoc (X ++ pl)] at hD
  have h := va_D.swap hD
  rw [← List.append_assoc X] at h
  have h2 := va_D.swap h
  rw [List.append_assoc (X ++ [x])] at h2
  exact h2
theorem vr_outer (c : ClassId) (N h0 : Nat) : ∀ i : Nat, Jvm.Free.Multi.outerC c N h0 i = arrV c N (fun j => va_rf (if j < i then some (h0 + 1 + j) else none))
  | 0 => by
    show ({ cls := c, slots := Array.replicate N .null, vm := .none } : Cell) = _
    rw [arrV_new]
    refine congrArg (arrV c N) (funext fun j => ?_)
    simp [va_rf]
  | i + 1 => by
    show (Jvm.Free.Multi.outerC c N h0 i).setSlot i (.ref (h0 + 1 + i)) = _
    rw [vr_outer c N h0 i, arrV_store]
    refine congrArg (arrV c N) (funext fun j => ?_)
    by_cases e : j = i
    · subst e
      simp [updV, va_rf]
    · by_cases h : j < i
      · simp [updV, e, h, Nat.lt_succ_of_lt h]
      · simp [updV, e, h, show ¬ j < i + 1 by omega]
/-- what the tables say of an array whose elements are arrays (the printed names use this word; the kit as laid does not have it) -/
def va_AOA (ty : FieldType) (U : State) : Prop := (Cond.arrayOver (.array ty)).before #[] U = true
theorem va_AOA.use {ty : FieldType} {A : Array Value} {U : State} (h : va_AOA ty U) : (Cond.arrayOver (.array ty)).before A U = true := h
section VGM
variable {p : Program} {l : Launch} {e : Env} {R : Room} {s : State} {m : MethodId} {args : Array Value} {below : List Frame} {meth : Method} {c : Code} {H : Heap} {locs : List Loc} {cells slots : Nat} {Q : State → Prop}
variable {cc : ByteArray} {pc : Nat} {ls : Array Slot} {rest : List Value} {D : va_G} {cl : List vw_C} {A : Nat → Prop} {a : Nat} {tys : List (ClassId × FieldType)} {ws : va_W} {H0 : Heap}
theorem va_mna {X : va_W} {L : List Nat} {f : Nat → va_E} {cc : ByteArray} (hexec : p.tables.exec = Jvm.exec) (hb : c.code = cc) {own : String} {index : Nat} {ty : FieldType} {cy : ClassId} (hown : s.vm.findClass own = some m.cls) (hclink : (Cond.classLink own index ("[" ++ (FieldType.array ty).toString)).before args s = true) (hover : va_AOA ty s) (harr : (Cond.arrayClass ty).before args s = true) (hcy : s.vm.findClass (FieldType.array ty).toString = some cy)
    (hK : va_K D cl tys s) (hP : va_P D cl (X ++ va_pl L f) H) (hD : va_D A (X ++ va_pl L f)) (hS : va_S A H0 H locs) (hA : ∀ q, H0.size ≤ q → A q) {n k : Int32} {N' K' : Nat} {z : vp_A} (hn : ¬ n < 0) (hk : ¬ k < 0) (hN : n.toNatClampNeg = N') (hM : k.toNatClampNeg = K')
    (hb1 : N' * 4 ≤ 536870912) (hb2 : K' * componentBytes ty ≤ 536870912) (hb3 : K' ≤ 536870912) (hdf : fits ty (defaultValue ty) = true) (hdd : (defaultValue ty).isDefault = true) (hcells : cells + (1 + N') ≤ R.cells) (hslots : slots + (N' + N' * K') ≤ R.slots) (hz : ∀ c : ClassId, Jvm.Free.Multi.innerC c K' (defaultValue ty) = vp_cell c z) (hdg : decode cc pc = .ok (.multianewarray index 2, 4))
    (kk : ∀ (q : Nat) (r : Nat → Nat) (cA : ClassId) (H1 : Heap), (∀ i j : Nat, i < N' → j < N' → r i = r j → i = j) → (∀ i : Nat, i < N' → r i ∉ L) → va_K D cl (tys ++ [(cA, .array ty)]) s →
      va_P D cl ((X ++ [(q, .inl (cA, N', .inr (.inr (.inr (.inr (fun i => if i < N' then some (r i) else none))))))]) ++ va_pl (L ++ (List.range N').map r) (vr_up f ((List.range N').map r) (.inl (cy, z)))) H1 → va_D A ((X ++ [(q, .inl (cA, N', .inr (.inr (.inr (.inr (fun i => if i < N' then some (r i) else none))))))]) ++ va_pl (L ++ (List.range N').map r) (vr_up f ((List.range N').map r) (.inl (cy, z)))) → va_S A H0 H1 locs →
      W p l e R s m args below meth c H1 locs (cells + 1 + N') (slots + N' + N' * K') Q (F0 m (pc + 4) ls (.ref q :: rest))) : W p l e R s m args below meth c H locs cells slots Q (F0 m pc ls (.int k :: .int n :: rest)) := by
  subst hN
  subst hM
  intro T hT Xs
  obtain ⟨vm₁, cA, comp, -, fA, fC, hO, -, X', step⟩ := Xs.multianewarray2F hexec hown hclink (va_AOA.use hover) harr (g := F0 m pc ls (.int k :: .int n :: rest)) rfl (by rw [hb]; exact hdg) rfl hn hk hb1 hb2 hb3 hdf hdd hcells hslots
  have ec : some cy = some comp := hcy.symm.trans fC
  cases ec
  generalize hF : Jvm.Free.Multi.fill (T.setVm vm₁) cA cy n.toNatClampNeg k.toNatClampNeg (defaultValue ty) n.toNatClampNeg = F at X' step
  have hTh : (T.setVm vm₁).heap = H := hT
  obtain ⟨f1, f2, -, -⟩ := Jvm.Free.Multi.fill_facts (T.setVm vm₁) cA cy n.toNatClampNeg k.toNatClampNeg (defaultValue ty) n.toNatClampNeg
  rw [hF, hTh] at f1 f2
  have hold : ∀ x : Nat, x < H.size → F.heap[x]? = H[x]? := fun x hx => by
    have := Jvm.Free.Multi.fill_old (T.setVm vm₁) cA cy n.toNatClampNeg k.toNatClampNeg (defaultValue ty) (a := x) (by rw [hTh]; exact hx) n.toNatClampNeg
    rw [hF, hTh] at this
    exact this
  have hrow : ∀ j : Nat, j < n.toNatClampNeg → F.heap[H.size + 1 + j]? = some (vp_cell cy z) := fun j hj => by
    have := Jvm.Free.Multi.fill_inner (T.setVm vm₁) cA cy n.toNatClampNeg k.toNatClampNeg (defaultValue ty) n.toNatClampNeg j hj
    rw [hF, hTh, hz] at this
    exact this
  have hout : Jvm.Free.Multi.outerC cA n.toNatClampNeg H.size n.toNatClampNeg = vp_cell cA (n.toNatClampNeg, .inr (.inr (.inr (.inr (fun i => if i < n.toNatClampNeg then some (H.size + 1 + i) else none))))) := by
    rw [vp_cell_q]
    exact vr_outer cA n.toNatClampNeg H.size n.toNatClampNeg
  rw [hout] at f2
  have hlt : ∀ a, a ∈ L → a < H.size := fun a ha => by
    obtain ⟨k9, hk9⟩ := va_pl_get (X := X) (f := f) ha
    exact (hP k9 _ hk9).lt
  have hnl : ∀ i : Nat, i < n.toNatClampNeg → H.size + 1 + i ∉ L := fun i _ h => by
    have := hlt _ h
    omega
  have hnm : ∀ a, a ∈ (List.range n.toNatClampNeg).map (fun i => H.size + 1 + i) → a ∉ L := fun a ha h => by
    obtain ⟨i, -, rfl⟩ := List.mem_map.mp ha
    have := hlt _ h
    omega
  have hP0 : va_P D cl (X ++ va_pl L f) F.heap := hP.kept (fun k9 x hx => hold x.1 ((hP k9 x hx).lt))
  have hP1 : va_P D cl ((X ++ va_pl L f) ++ [(H.size, .inl (cA, n.toNatClampNeg, .inr (.inr (.inr (.inr (fun i => if i < n.toNatClampNeg then some (H.size + 1 + i) else none))))))]) F.heap := hP0.app (fun k9 x hx => by
    have h0 : k9 < 1 := (List.getElem?_eq_some_iff.mp hx).1
    rw [show k9 = 0 by omega] at hx
    cases hx
    exact f2)
  have hP2 : va_P D cl (((X ++ va_pl L f) ++ [(H.size, .inl (cA, n.toNatClampNeg, .inr (.inr (.inr (.inr (fun i => if i < n.toNatClampNeg then some (H.size + 1 + i) else none))))))]) ++ ((List.range n.toNatClampNeg).map (fun i => H.size + 1 + i)).map (fun a => (a, .inl (cy, z)))) F.heap := hP1.app (fun k9 x hx => by
    obtain ⟨a, ha, rfl⟩ := List.mem_map.mp (List.mem_of_getElem? hx)
    obtain ⟨i, hi, rfl⟩ := List.mem_map.mp ha
    exact hrow i (List.mem_range.mp hi))
  have hD2 : va_D A (((X ++ va_pl L f) ++ [(H.size, .inl (cA, n.toNatClampNeg, .inr (.inr (.inr (.inr (fun i => if i < n.toNatClampNeg then some (H.size + 1 + i) else none))))))]) ++ ((List.range n.toNatClampNeg).map (fun i => H.size + 1 + i)).map (fun a => (a, .inl (cy, z)))) := by
    have hD1 := hD.push (e := .inl (cA, n.toNatClampNeg, .inr (.inr (.inr (.inr (fun i => if i < n.toNatClampNeg then some (H.size + 1 + i) else none)))))) hP rfl (hA _ hS.1)
    generalize hW1 : (X ++ va_pl L f) ++ [(H.size, .inl (cA, n.toNatClampNeg, .inr (.inr (.inr (.inr (fun i => if i < n.toNatClampNeg then some (H.size + 1 + i) else none))))))] = W1 at hD1 hP1 ⊢
    have hle : ∀ (k9 : Nat) (x : Nat × va_E), W1[k9]? = some x → x.1 ≤ H.size := fun k9 x hx => by
      rw [← hW1] at hx
      by_cases hl : k9 < (X ++ va_pl L f).length
      · rw [List.getElem?_append_left hl] at hx
        exact Nat.le_of_lt ((hP k9 x hx).lt)
      · rw [List.getElem?_append_right (by omega)] at hx
        have h0 : k9 - (X ++ va_pl L f).length < 1 := (List.getElem?_eq_some_iff.mp hx).1
        rw [show k9 - (X ++ va_pl L f).length = 0 by omega] at hx
        cases hx
        exact Nat.le_refl _
    have hr : ∀ (k9 : Nat) (x : Nat × va_E), (((List.range n.toNatClampNeg).map (fun i => H.size + 1 + i)).map (fun a => ((a, .inl (cy, z)) : Nat × va_E)))[k9]? = some x → x.1 = H.size + 1 + k9 := fun k9 x hx => by
      rw [List.getElem?_map, List.getElem?_map] at hx
      by_cases h9 : k9 < n.toNatClampNeg
      · rw [List.getElem?_range h9] at hx
        cases hx
        rfl
      · have hn0 : (List.range n.toNatClampNeg)[k9]? = none := List.getElem?_eq_none (by rw [List.length_range]; omega)
        rw [hn0] at hx
        cases hx
    refine ⟨fun i j x y hi hj hxy => ?_, fun k9 x hx => ?_⟩
    · by_cases h1 : i < W1.length <;> by_cases h2 : j < W1.length
      · rw [List.getElem?_append_left h1] at hi
        rw [List.getElem?_append_left h2] at hj
        exact hD1.1 i j x y hi hj hxy
      · rw [List.getElem?_append_left h1] at hi
        rw [List.getElem?_append_right (by omega)] at hj
        have := hle _ _ hi
        have := hr _ _ hj
        omega
      · rw [List.getElem?_append_right (by omega)] at hi
        rw [List.getElem?_append_left h2] at hj
        have := hle _ _ hj
        have := hr _ _ hi
        omega
      · rw [List.getElem?_append_right (by omega)] at hi hj
        have := hr _ _ hi
        have := hr _ _ hj
        omega
    · by_cases h1 : k9 < W1.length
      · rw [List.getElem?_append_left h1] at hx
        exact hD1.2 k9 x hx
      · rw [List.getElem?_append_right (by omega)] at hx
        have := hr _ _ hx
        exact hA _ (by have := hS.1; omega)
  have hAr : ArrOfT s cA (.array ty) := fun N9 z9 => by
    obtain ⟨-, k9, hk9, cm9, hkk9⟩ := (hO 0 0 0).1
    exact ⟨(fun q hq => by cases hq), k9, hk9, cm9, hkk9⟩
  have hK2 : va_K D cl (tys ++ [(cA, .array ty)]) s := ⟨hK.1, fun k9 x hx => by
    by_cases hl : k9 < tys.length
    · rw [List.getElem?_append_left hl] at hx
      exact hK.2 k9 x hx
    · rw [List.getElem?_append_right (by omega)] at hx
      have h0 : k9 - tys.length < 1 := (List.getElem?_eq_some_iff.mp hx).1
      rw [show k9 - tys.length = 0 by omega] at hx
      cases hx
      exact ⟨hAr, fA⟩⟩
  obtain ⟨t, a1, b1⟩ := kk H.size (fun i => H.size + 1 + i) cA F.heap (fun i j _ _ h => by have h9 : H.size + 1 + i = H.size + 1 + j := h; omega) hnl hK2 (by rw [← vr_rows hnm]; exact vr_lay hP2) (by rw [← vr_rows hnm]; exact vr_layD hD2) ⟨by rw [f1]; have := hS.1; omega, fun x h1 h2 => (hold x (Nat.lt_of_lt_of_le h1 hS.1)).trans (hS.2.1 x h1 h2), hS.2.2⟩ F rfl X'
  refine ⟨t, step t ?_, b1⟩
  have e : T.heap.size = H.size := by rw [hT]
  rw [e]
  exact a1
end VGM
/-! ===== END ===== -/
end
section
/-! Tables, printed by wip/gen.py: kinds of objects, methods, instructions, links, places. -/
def gR0 : String := "GreatestFlow$Graph"
def gT0 : u_T := fun k => match k with
  | 0 => ("GreatestFlow$Graph", "kinds", "[I", true)
  | 1 => ("GreatestFlow$Graph", "bounds", "[I", true)
  | 2 => ("GreatestFlow$Graph", "froms", "[I", true)
  | 3 => ("GreatestFlow$Graph", "tos", "[I", true)
  | 4 => ("GreatestFlow$Graph", "leasts", "[I", true)
  | 5 => ("GreatestFlow$Graph", "mosts", "[I", true)
  | 6 => ("GreatestFlow$Graph", "dropped", "[Z", true)
  | 7 => ("GreatestFlow$Graph", "nodes", "I", false)
  | 8 => ("GreatestFlow$Graph", "arcs", "I", false)
  | _ => ("GreatestFlow$Graph", "arcsThere", "I", false)
def gY0 : Nat → FieldType := fun k => match k with
  | 0 => .array .int
  | 1 => .array .int
  | 2 => .array .int
  | 3 => .array .int
  | 4 => .array .int
  | 5 => .array .int
  | 6 => .array .boolean
  | 7 => .int
  | 8 => .int
  | _ => .int
theorem gN0 : ∀ a, a < 10 → ∀ b, b < 10 → a ≠ b → (gT0 a).2.1 ≠ (gT0 b).2.1 := by decide +kernel
theorem gY0_ok : ∀ k, k < 10 → parseFieldDescriptor (gT0 k).2.2.1 = some (gY0 k) := by decide +kernel
def gR1 : String := "GreatestFlow$Net"
def gT1 : u_T := fun k => match k with
  | 0 => ("GreatestFlow$Net", "low", "[I", true)
  | 1 => ("GreatestFlow$Net", "high", "[I", true)
  | 2 => ("GreatestFlow$Net", "from", "[I", true)
  | 3 => ("GreatestFlow$Net", "to", "[I", true)
  | 4 => ("GreatestFlow$Net", "flow", "[I", true)
  | 5 => ("GreatestFlow$Net", "held", "[Z", true)
  | 6 => ("GreatestFlow$Net", "halves", "[I", true)
  | 7 => ("GreatestFlow$Net", "halfCount", "[I", true)
  | 8 => ("GreatestFlow$Net", "reachedBy", "[I", true)
  | _ => ("GreatestFlow$Net", "queue", "[I", true)
def gY1 : Nat → FieldType := fun k => match k with
  | 0 => .array .int
  | 1 => .array .int
  | 2 => .array .int
  | 3 => .array .int
  | 4 => .array .int
  | 5 => .array .boolean
  | 6 => .array .int
  | 7 => .array .int
  | 8 => .array .int
  | _ => .array .int
theorem gN1 : ∀ a, a < 10 → ∀ b, b < 10 → a ≠ b → (gT1 a).2.1 ≠ (gT1 b).2.1 := by decide +kernel
theorem gY1_ok : ∀ k, k < 10 → parseFieldDescriptor (gT1 k).2.2.1 = some (gY1 k) := by decide +kernel
def gR2 : String := "GreatestFlow$Parts"
def gT2 : u_T := fun k => match k with
  | 0 => ("GreatestFlow$Parts", "amounts", "[I", true)
  | 1 => ("GreatestFlow$Parts", "lengths", "[I", true)
  | 2 => ("GreatestFlow$Parts", "count", "I", false)
  | 3 => ("GreatestFlow$Parts", "streamArcs", "[I", true)
  | 4 => ("GreatestFlow$Parts", "left", "[I", true)
  | 5 => ("GreatestFlow$Parts", "due", "[I", true)
  | 6 => ("GreatestFlow$Parts", "placeOf", "[I", true)
  | _ => ("GreatestFlow$Parts", "path", "[I", true)
def gY2 : Nat → FieldType := fun k => match k with
  | 0 => .array .int
  | 1 => .array .int
  | 2 => .int
  | 3 => .array .int
  | 4 => .array .int
  | 5 => .array .int
  | 6 => .array .int
  | _ => .array .int
theorem gN2 : ∀ a, a < 8 → ∀ b, b < 8 → a ≠ b → (gT2 a).2.1 ≠ (gT2 b).2.1 := by decide +kernel
theorem gY2_ok : ∀ k, k < 8 → parseFieldDescriptor (gT2 k).2.2.1 = some (gY2 k) := by decide +kernel
def gR3 : String := "GreatestFlow"
def gT3 : u_T := fun k => match k with
  | 0 => ("GreatestFlow", "graph", "LGreatestFlow$Graph;", true)
  | 1 => ("GreatestFlow", "net", "LGreatestFlow$Net;", true)
  | 2 => ("GreatestFlow", "parts", "LGreatestFlow$Parts;", true)
  | 3 => ("GreatestFlow", "someFlow", "[I", true)
  | 4 => ("GreatestFlow", "firstFlow", "[[I", true)
  | 5 => ("GreatestFlow", "firstKnown", "[Z", true)
  | 6 => ("GreatestFlow", "barredDown", "[I", true)
  | 7 => ("GreatestFlow", "barredCount", "I", false)
  | 8 => ("GreatestFlow", "barredKnown", "Z", false)
  | 9 => ("GreatestFlow", "partsKnown", "Z", false)
  | 10 => ("GreatestFlow", "flowSought", "Z", false)
  | _ => ("GreatestFlow", "flowFound", "Z", false)
def gY3 : Nat → FieldType := fun k => match k with
  | 0 => .object "GreatestFlow$Graph"
  | 1 => .object "GreatestFlow$Net"
  | 2 => .object "GreatestFlow$Parts"
  | 3 => .array .int
  | 4 => .array (.array .int)
  | 5 => .array .boolean
  | 6 => .array .int
  | 7 => .int
  | 8 => .boolean
  | 9 => .boolean
  | 10 => .boolean
  | _ => .boolean
theorem gN3 : ∀ a, a < 12 → ∀ b, b < 12 → a ≠ b → (gT3 a).2.1 ≠ (gT3 b).2.1 := by decide +kernel
theorem gY3_ok : ∀ k, k < 12 → parseFieldDescriptor (gT3 k).2.2.1 = some (gY3 k) := by decide +kernel
def gR4 : String := "GreatestFlowModel"
def gT4 : u_T := fun k => match k with
  | 0 => ("GreatestFlowModel", "nodes", "I", false)
  | 1 => ("GreatestFlowModel", "kinds", "[I", true)
  | 2 => ("GreatestFlowModel", "bounds", "[I", true)
  | 3 => ("GreatestFlowModel", "arcs", "I", false)
  | 4 => ("GreatestFlowModel", "from", "[I", true)
  | 5 => ("GreatestFlowModel", "to", "[I", true)
  | 6 => ("GreatestFlowModel", "least", "[I", true)
  | 7 => ("GreatestFlowModel", "most", "[I", true)
  | 8 => ("GreatestFlowModel", "alive", "[Z", true)
  | 9 => ("GreatestFlowModel", "known", "Z", false)
  | 10 => ("GreatestFlowModel", "low", "[I", true)
  | 11 => ("GreatestFlowModel", "high", "[I", true)
  | 12 => ("GreatestFlowModel", "kind", "[I", true)
  | 13 => ("GreatestFlowModel", "left", "[I", true)
  | 14 => ("GreatestFlowModel", "before", "[I", true)
  | 15 => ("GreatestFlowModel", "queue", "[I", true)
  | 16 => ("GreatestFlowModel", "must", "I", false)
  | 17 => ("GreatestFlowModel", "has", "Z", false)
  | 18 => ("GreatestFlowModel", "values", "[I", true)
  | 19 => ("GreatestFlowModel", "flows", "[I", true)
  | 20 => ("GreatestFlowModel", "isBarred", "[Z", true)
  | 21 => ("GreatestFlowModel", "streams", "I", false)
  | 22 => ("GreatestFlowModel", "streamSize", "[I", true)
  | 23 => ("GreatestFlowModel", "streamArcs", "[I", true)
  | 24 => ("GreatestFlowModel", "streamArc", "[I", true)
  | 25 => ("GreatestFlowModel", "over", "[I", true)
  | 26 => ("GreatestFlowModel", "give", "[I", true)
  | 27 => ("GreatestFlowModel", "path", "[I", true)
  | _ => ("GreatestFlowModel", "placeOf", "[I", true)
def gY4 : Nat → FieldType := fun k => match k with
  | 0 => .int
  | 1 => .array .int
  | 2 => .array .int
  | 3 => .int
  | 4 => .array .int
  | 5 => .array .int
  | 6 => .array .int
  | 7 => .array .int
  | 8 => .array .boolean
  | 9 => .boolean
  | 10 => .array .int
  | 11 => .array .int
  | 12 => .array .int
  | 13 => .array .int
  | 14 => .array .int
  | 15 => .array .int
  | 16 => .int
  | 17 => .boolean
  | 18 => .array .int
  | 19 => .array .int
  | 20 => .array .boolean
  | 21 => .int
  | 22 => .array .int
  | 23 => .array .int
  | 24 => .array .int
  | 25 => .array .int
  | 26 => .array .int
  | 27 => .array .int
  | _ => .array .int
theorem gN4 : ∀ a, a < 29 → ∀ b, b < 29 → a ≠ b → (gT4 a).2.1 ≠ (gT4 b).2.1 := by decide +kernel
theorem gY4_ok : ∀ k, k < 29 → parseFieldDescriptor (gT4 k).2.2.1 = some (gY4 k) := by decide +kernel
abbrev gx_cl : List vw_C := [(gR0, gT0, 10), (gR1, gT1, 10), (gR2, gT2, 8), (gR3, gT3, 12), (gR4, gT4, 29)]
def gx_ty (ci : Nat) : Nat → FieldType := match ci with
  | 0 => gY0
  | 1 => gY1
  | 2 => gY2
  | 3 => gY3
  | _ => gY4
def gx_TBL : List Cond := lw_tbl.filter goodWord
theorem gx_in0 {q : Cond} (i : Nat) (h : (k2_sels lw_privs)[i]? = some q) (hg : goodWord q = true) : q ∈ gx_TBL := List.mem_filter.mpr ⟨List.mem_append_left _ (List.mem_of_getElem? h), hg⟩
theorem gx_in1 {q : Cond} (i : Nat) (h : tables_1_1[i]? = some q) (hg : goodWord q = true) : q ∈ gx_TBL := List.mem_filter.mpr ⟨List.mem_append_right _ (List.mem_append_left _ (List.mem_of_getElem? h)), hg⟩
theorem gx_in2 {q : Cond} (i : Nat) (h : tables_1_2[i]? = some q) (hg : goodWord q = true) : q ∈ gx_TBL := List.mem_filter.mpr ⟨List.mem_append_right _ (List.mem_append_right _ (List.mem_append_left _ (List.mem_of_getElem? h))), hg⟩
theorem gx_in3 {q : Cond} (i : Nat) (h : tables_1_3[i]? = some q) (hg : goodWord q = true) : q ∈ gx_TBL := List.mem_filter.mpr ⟨List.mem_append_right _ (List.mem_append_right _ (List.mem_append_right _ (List.mem_of_getElem? h))), hg⟩
set_option maxRecDepth 20000 in
theorem gx_lay0 : ∀ q ∈ u_ws gR0 gT0 10, q ∈ gx_TBL := by
  intro q h
  obtain ⟨k, hk, rfl⟩ := List.mem_map.mp h
  have hk := List.mem_range.mp hk
  match k, hk with
  | 0, _ => exact gx_in1 46 rfl rfl
  | 1, _ => exact gx_in1 48 rfl rfl
  | 2, _ => exact gx_in1 50 rfl rfl
  | 3, _ => exact gx_in1 52 rfl rfl
  | 4, _ => exact gx_in1 54 rfl rfl
  | 5, _ => exact gx_in1 56 rfl rfl
  | 6, _ => exact gx_in1 58 rfl rfl
  | 7, _ => exact gx_in1 60 rfl rfl
  | 8, _ => exact gx_in1 62 rfl rfl
  | 9, _ => exact gx_in1 64 rfl rfl
  | k + 10, hk => exact absurd hk (by omega)
set_option maxRecDepth 20000 in
theorem gx_lay1 : ∀ q ∈ u_ws gR1 gT1 10, q ∈ gx_TBL := by
  intro q h
  obtain ⟨k, hk, rfl⟩ := List.mem_map.mp h
  have hk := List.mem_range.mp hk
  match k, hk with
  | 0, _ => exact gx_in1 87 rfl rfl
  | 1, _ => exact gx_in1 89 rfl rfl
  | 2, _ => exact gx_in1 91 rfl rfl
  | 3, _ => exact gx_in1 93 rfl rfl
  | 4, _ => exact gx_in1 95 rfl rfl
  | 5, _ => exact gx_in1 97 rfl rfl
  | 6, _ => exact gx_in1 99 rfl rfl
  | 7, _ => exact gx_in1 101 rfl rfl
  | 8, _ => exact gx_in1 103 rfl rfl
  | 9, _ => exact gx_in1 105 rfl rfl
  | k + 10, hk => exact absurd hk (by omega)
set_option maxRecDepth 20000 in
theorem gx_lay2 : ∀ q ∈ u_ws gR2 gT2 8, q ∈ gx_TBL := by
  intro q h
  obtain ⟨k, hk, rfl⟩ := List.mem_map.mp h
  have hk := List.mem_range.mp hk
  match k, hk with
  | 0, _ => exact gx_in1 125 rfl rfl
  | 1, _ => exact gx_in1 127 rfl rfl
  | 2, _ => exact gx_in1 129 rfl rfl
  | 3, _ => exact gx_in1 131 rfl rfl
  | 4, _ => exact gx_in1 133 rfl rfl
  | 5, _ => exact gx_in1 135 rfl rfl
  | 6, _ => exact gx_in1 137 rfl rfl
  | 7, _ => exact gx_in1 139 rfl rfl
  | k + 8, hk => exact absurd hk (by omega)
set_option maxRecDepth 20000 in
theorem gx_lay3 : ∀ q ∈ u_ws gR3 gT3 12, q ∈ gx_TBL := by
  intro q h
  obtain ⟨k, hk, rfl⟩ := List.mem_map.mp h
  have hk := List.mem_range.mp hk
  match k, hk with
  | 0, _ => exact gx_in1 156 rfl rfl
  | 1, _ => exact gx_in1 158 rfl rfl
  | 2, _ => exact gx_in1 160 rfl rfl
  | 3, _ => exact gx_in1 162 rfl rfl
  | 4, _ => exact gx_in1 164 rfl rfl
  | 5, _ => exact gx_in1 166 rfl rfl
  | 6, _ => exact gx_in1 168 rfl rfl
  | 7, _ => exact gx_in1 170 rfl rfl
  | 8, _ => exact gx_in1 172 rfl rfl
  | 9, _ => exact gx_in1 174 rfl rfl
  | 10, _ => exact gx_in1 176 rfl rfl
  | 11, _ => exact gx_in1 178 rfl rfl
  | k + 12, hk => exact absurd hk (by omega)
set_option maxRecDepth 20000 in
theorem gx_lay4 : ∀ q ∈ u_ws gR4 gT4 29, q ∈ gx_TBL := by
  intro q h
  obtain ⟨k, hk, rfl⟩ := List.mem_map.mp h
  have hk := List.mem_range.mp hk
  match k, hk with
  | 0, _ => exact gx_in3 0 rfl rfl
  | 1, _ => exact gx_in3 2 rfl rfl
  | 2, _ => exact gx_in3 4 rfl rfl
  | 3, _ => exact gx_in3 6 rfl rfl
  | 4, _ => exact gx_in3 8 rfl rfl
  | 5, _ => exact gx_in3 10 rfl rfl
  | 6, _ => exact gx_in3 12 rfl rfl
  | 7, _ => exact gx_in3 14 rfl rfl
  | 8, _ => exact gx_in3 16 rfl rfl
  | 9, _ => exact gx_in3 18 rfl rfl
  | 10, _ => exact gx_in3 20 rfl rfl
  | 11, _ => exact gx_in3 22 rfl rfl
  | 12, _ => exact gx_in3 24 rfl rfl
  | 13, _ => exact gx_in3 26 rfl rfl
  | 14, _ => exact gx_in3 28 rfl rfl
  | 15, _ => exact gx_in3 30 rfl rfl
  | 16, _ => exact gx_in3 32 rfl rfl
  | 17, _ => exact gx_in3 34 rfl rfl
  | 18, _ => exact gx_in3 36 rfl rfl
  | 19, _ => exact gx_in3 38 rfl rfl
  | 20, _ => exact gx_in3 40 rfl rfl
  | 21, _ => exact gx_in3 42 rfl rfl
  | 22, _ => exact gx_in3 44 rfl rfl
  | 23, _ => exact gx_in3 46 rfl rfl
  | 24, _ => exact gx_in3 48 rfl rfl
  | 25, _ => exact gx_in3 50 rfl rfl
  | 26, _ => exact gx_in3 52 rfl rfl
  | 27, _ => exact gx_in3 54 rfl rfl
  | 28, _ => exact gx_in3 56 rfl rfl
  | k + 29, hk => exact absurd hk (by omega)
theorem gx_lays : ∀ (ci : Nat) (q : vw_C), gx_cl[ci]? = some q → ∀ w ∈ u_ws q.1 q.2.1 q.2.2, w ∈ gx_TBL := by
  intro ci q h
  match ci, h with
  | 0, h => cases h; exact gx_lay0
  | 1, h => cases h; exact gx_lay1
  | 2, h => cases h; exact gx_lay2
  | 3, h => cases h; exact gx_lay3
  | 4, h => cases h; exact gx_lay4
  | k + 5, h => cases h
theorem gx_tys_ok : ∀ (ci : Nat) (q : vw_C), gx_cl[ci]? = some q → (∀ k, k < q.2.2 → parseFieldDescriptor (q.2.1 k).2.2.1 = some (gx_ty ci k)) ∧ (∀ a, a < q.2.2 → ∀ b, b < q.2.2 → a ≠ b → (q.2.1 a).2.1 ≠ (q.2.1 b).2.1) := by
  intro ci q h
  match ci, h with
  | 0, h => cases h; exact ⟨gY0_ok, gN0⟩
  | 1, h => cases h; exact ⟨gY1_ok, gN1⟩
  | 2, h => cases h; exact ⟨gY2_ok, gN2⟩
  | 3, h => cases h; exact ⟨gY3_ok, gN3⟩
  | 4, h => cases h; exact ⟨gY4_ok, gN4⟩
  | k + 5, h => cases h
/-- a method: its name, its code, its room for values, what it returns, the number of its owner, the frames and words that it needs -/
def gx_mm : List (MethodName × ByteArray × Nat × Option FieldType × Nat × Nat × Nat) := [
  (⟨"GreatestFlow$Graph", "hasNode", "(I)Z"⟩, prog_2_method_2_code, 2, (some .boolean), 0, 0, 0),
  (⟨"GreatestFlow$Graph", "hasArc", "(I)Z"⟩, prog_2_method_3_code, 2, (some .boolean), 0, 0, 0),
  (⟨"GreatestFlow$Graph", "addNode", "()I"⟩, prog_2_method_4_code, 1, (some .int), 0, 0, 0),
  (⟨"GreatestFlow$Graph", "addArc", "(IIII)I"⟩, prog_2_method_5_code, 5, (some .int), 0, 0, 0),
  (⟨"GreatestFlow$Graph", "removeArc", "(I)I"⟩, prog_2_method_6_code, 2, (some .int), 0, 0, 0),
  (⟨"GreatestFlow$Graph", "removeAll", "()I"⟩, prog_2_method_7_code, 2, (some .int), 0, 0, 0),
  (⟨"GreatestFlow$Graph", "comes", "([II)I"⟩, prog_2_method_8_code, 5, (some .int), 0, 0, 0),
  (⟨"GreatestFlow$Graph", "goes", "([II)I"⟩, prog_2_method_9_code, 5, (some .int), 0, 0, 0),
  (⟨"GreatestFlow$Net", "empty", "()V"⟩, prog_3_method_2_code, 2, none, 1, 1, 23),
  (⟨"GreatestFlow$Net", "put", "(IIIII)V"⟩, prog_3_method_3_code, 6, none, 1, 1, 23),
  (⟨"GreatestFlow$Net", "addHalf", "(II)V"⟩, prog_3_method_4_code, 4, none, 1, 0, 0),
  (⟨"GreatestFlow$Net", "save", "([I)V"⟩, prog_3_method_5_code, 2, none, 1, 1, 26),
  (⟨"GreatestFlow$Net", "load", "([I)V"⟩, prog_3_method_6_code, 2, none, 1, 1, 26),
  (⟨"GreatestFlow$Net", "hold", "(I)V"⟩, prog_3_method_7_code, 2, none, 1, 0, 0),
  (⟨"GreatestFlow$Net", "mend", "()Z"⟩, prog_3_method_8_code, 3, (some .boolean), 1, 4, 100),
  (⟨"GreatestFlow$Net", "raise", "(II)I"⟩, prog_3_method_9_code, 4, (some .int), 1, 3, 77),
  (⟨"GreatestFlow$Net", "lower", "(I)V"⟩, prog_3_method_10_code, 2, none, 1, 3, 77),
  (⟨"GreatestFlow$Net", "carry", "(III)I"⟩, prog_3_method_11_code, 7, (some .int), 1, 2, 51),
  (⟨"GreatestFlow$Net", "reaches", "(II)Z"⟩, prog_3_method_12_code, 9, (some .boolean), 1, 1, 23),
  (⟨"GreatestFlow$Net", "narrowest", "(I)I"⟩, prog_3_method_13_code, 5, (some .int), 1, 1, 22),
  (⟨"GreatestFlow$Net", "send", "(II)V"⟩, prog_3_method_14_code, 5, none, 1, 1, 21),
  (⟨"GreatestFlow$Net", "endOf", "(I)I"⟩, prog_3_method_15_code, 2, (some .int), 1, 0, 0),
  (⟨"GreatestFlow$Net", "leftOn", "(I)I"⟩, prog_3_method_16_code, 3, (some .int), 1, 0, 0),
  (⟨"GreatestFlow$Parts", "arcAt", "(II)I"⟩, prog_4_method_2_code, 3, (some .int), 2, 0, 0),
  (⟨"GreatestFlow$Parts", "split", "(LGreatestFlow$Graph;[I)V"⟩, prog_4_method_3_code, 5, none, 2, 4, 94),
  (⟨"GreatestFlow$Parts", "leastGiver", "(LGreatestFlow$Graph;)I"⟩, prog_4_method_4_code, 3, (some .int), 2, 0, 0),
  (⟨"GreatestFlow$Parts", "walk", "(LGreatestFlow$Graph;I)V"⟩, prog_4_method_5_code, 6, none, 2, 3, 69),
  (⟨"GreatestFlow$Parts", "leastArcFrom", "(LGreatestFlow$Graph;I)I"⟩, prog_4_method_6_code, 4, (some .int), 2, 0, 0),
  (⟨"GreatestFlow$Parts", "endStream", "(III)V"⟩, prog_4_method_7_code, 5, none, 2, 2, 45),
  (⟨"GreatestFlow$Parts", "leastLeft", "(II)I"⟩, prog_4_method_8_code, 5, (some .int), 2, 1, 21),
  (⟨"GreatestFlow$Parts", "takeFromPath", "(III)V"⟩, prog_4_method_9_code, 5, none, 2, 0, 0),
  (⟨"GreatestFlow", "node", "()I"⟩, prog_1_method_2_code, 1, (some .int), 3, 1, 20),
  (⟨"GreatestFlow", "kind", "(II)I"⟩, prog_1_method_3_code, 4, (some .int), 3, 1, 21),
  (⟨"GreatestFlow", "bound", "(II)I"⟩, prog_1_method_4_code, 3, (some .int), 3, 1, 21),
  (⟨"GreatestFlow", "arc", "(IIII)I"⟩, prog_1_method_5_code, 5, (some .int), 3, 1, 24),
  (⟨"GreatestFlow", "change", "(III)I"⟩, prog_1_method_6_code, 4, (some .int), 3, 1, 21),
  (⟨"GreatestFlow", "drop", "(I)I"⟩, prog_1_method_7_code, 2, (some .int), 3, 1, 21),
  (⟨"GreatestFlow", "clear", "()I"⟩, prog_1_method_8_code, 1, (some .int), 3, 1, 21),
  (⟨"GreatestFlow", "run", "()I"⟩, prog_1_method_9_code, 1, (some .int), 3, 6, 142),
  (⟨"GreatestFlow", "value", "(I)I"⟩, prog_1_method_10_code, 2, (some .int), 3, 6, 142),
  (⟨"GreatestFlow", "on", "(II)I"⟩, prog_1_method_11_code, 3, (some .int), 3, 6, 142),
  (⟨"GreatestFlow", "through", "(II)I"⟩, prog_1_method_12_code, 4, (some .int), 3, 6, 142),
  (⟨"GreatestFlow", "near", "(I)I"⟩, prog_1_method_13_code, 2, (some .int), 3, 7, 165),
  (⟨"GreatestFlow", "far", "(I)I"⟩, prog_1_method_14_code, 2, (some .int), 3, 7, 165),
  (⟨"GreatestFlow", "tight", "(I)I"⟩, prog_1_method_15_code, 2, (some .int), 3, 6, 143),
  (⟨"GreatestFlow", "barred", "(I)I"⟩, prog_1_method_16_code, 2, (some .int), 3, 6, 144),
  (⟨"GreatestFlow", "streams", "()I"⟩, prog_1_method_17_code, 1, (some .int), 3, 6, 142),
  (⟨"GreatestFlow", "stream", "(II)I"⟩, prog_1_method_18_code, 3, (some .int), 3, 6, 142),
  (⟨"GreatestFlow", "isWay", "(I)Z"⟩, prog_1_method_19_code, 1, (some .boolean), 3, 0, 0),
  (⟨"GreatestFlow", "areArcBounds", "(II)Z"⟩, prog_1_method_20_code, 2, (some .boolean), 3, 0, 0),
  (⟨"GreatestFlow", "cameIn", "(I)I"⟩, prog_1_method_21_code, 1, (some .int), 3, 0, 0),
  (⟨"GreatestFlow", "goesOut", "(I)I"⟩, prog_1_method_22_code, 1, (some .int), 3, 0, 0),
  (⟨"GreatestFlow", "forget", "()V"⟩, prog_1_method_23_code, 1, none, 3, 0, 0),
  (⟨"GreatestFlow", "hasFlow", "()Z"⟩, prog_1_method_24_code, 1, (some .boolean), 3, 5, 122),
  (⟨"GreatestFlow", "first", "(I)[I"⟩, prog_1_method_25_code, 3, (some (.array .int)), 3, 4, 100),
  (⟨"GreatestFlow", "layOut", "()V"⟩, prog_1_method_26_code, 4, none, 3, 3, 70),
  (⟨"GreatestFlow", "layOutEnd", "(II)V"⟩, prog_1_method_27_code, 3, none, 3, 2, 48),
  (⟨"GreatestFlow", "layOutFirstGreatest", "()V"⟩, prog_1_method_28_code, 2, none, 3, 5, 122),
  (⟨"GreatestFlow", "helpsAs", "(II)I"⟩, prog_1_method_29_code, 3, (some .int), 3, 6, 143),
  (⟨"GreatestFlow", "findBarred", "()V"⟩, prog_1_method_30_code, 3, none, 3, 5, 122),
  (⟨"GreatestFlow", "splitFirstGreatest", "()V"⟩, prog_1_method_31_code, 1, none, 3, 5, 122),
  (⟨"GreatestFlowModel", "edge", "(IIII)V"⟩, prog_6_method_2_code, 5, none, 4, 0, 0),
  (⟨"GreatestFlowModel", "layOut", "(II)V"⟩, prog_6_method_3_code, 4, none, 4, 1, 24),
  (⟨"GreatestFlowModel", "findWay", "()Z"⟩, prog_6_method_4_code, 5, (some .boolean), 4, 0, 0),
  (⟨"GreatestFlowModel", "isThere", "(II)Z"⟩, prog_6_method_5_code, 6, (some .boolean), 4, 2, 47),
  (⟨"GreatestFlowModel", "take", "()V"⟩, prog_6_method_6_code, 2, none, 4, 0, 0),
  (⟨"GreatestFlowModel", "greatest", "()I"⟩, prog_6_method_7_code, 4, (some .int), 4, 3, 72),
  (⟨"GreatestFlowModel", "lowest", "()I"⟩, prog_6_method_8_code, 4, (some .int), 4, 3, 72),
  (⟨"GreatestFlowModel", "findFirst", "(I)V"⟩, prog_6_method_9_code, 6, none, 4, 4, 95),
  (⟨"GreatestFlowModel", "findBarred", "()V"⟩, prog_6_method_10_code, 2, none, 4, 3, 72),
  (⟨"GreatestFlowModel", "know", "()V"⟩, prog_6_method_11_code, 1, none, 4, 5, 120),
  (⟨"GreatestFlowModel", "comes", "(II)I"⟩, prog_6_method_12_code, 5, (some .int), 4, 0, 0),
  (⟨"GreatestFlowModel", "goes", "(II)I"⟩, prog_6_method_13_code, 5, (some .int), 4, 0, 0),
  (⟨"GreatestFlowModel", "nextArc", "(I)I"⟩, prog_6_method_14_code, 3, (some .int), 4, 0, 0),
  (⟨"GreatestFlowModel", "leastOf", "(II)I"⟩, prog_6_method_15_code, 5, (some .int), 4, 0, 0),
  (⟨"GreatestFlowModel", "lessen", "(III)V"⟩, prog_6_method_16_code, 5, none, 4, 0, 0),
  (⟨"GreatestFlowModel", "findStreams", "()V"⟩, prog_6_method_17_code, 2, none, 4, 2, 49),
  (⟨"GreatestFlowModel", "firstGiver", "()I"⟩, prog_6_method_18_code, 2, (some .int), 4, 0, 0),
  (⟨"GreatestFlowModel", "walk", "(I)V"⟩, prog_6_method_19_code, 6, none, 4, 1, 24),
  (⟨"GreatestFlowModel", "isNode", "(I)Z"⟩, prog_6_method_20_code, 2, (some .boolean), 4, 0, 0),
  (⟨"GreatestFlowModel", "isArc", "(I)Z"⟩, prog_6_method_21_code, 2, (some .boolean), 4, 0, 0),
  (⟨"GreatestFlowModel", "isSpan", "(II)Z"⟩, prog_6_method_22_code, 2, (some .boolean), 4, 0, 0),
  (⟨"GreatestFlowModel", "node", "()I"⟩, prog_6_method_23_code, 1, (some .int), 4, 0, 0),
  (⟨"GreatestFlowModel", "kind", "(II)I"⟩, prog_6_method_24_code, 4, (some .int), 4, 1, 21),
  (⟨"GreatestFlowModel", "bound", "(II)I"⟩, prog_6_method_25_code, 3, (some .int), 4, 1, 21),
  (⟨"GreatestFlowModel", "arc", "(IIII)I"⟩, prog_6_method_26_code, 5, (some .int), 4, 1, 21),
  (⟨"GreatestFlowModel", "change", "(III)I"⟩, prog_6_method_27_code, 4, (some .int), 4, 1, 21),
  (⟨"GreatestFlowModel", "drop", "(I)I"⟩, prog_6_method_28_code, 4, (some .int), 4, 1, 21),
  (⟨"GreatestFlowModel", "clear", "()I"⟩, prog_6_method_29_code, 2, (some .int), 4, 0, 0),
  (⟨"GreatestFlowModel", "run", "()I"⟩, prog_6_method_30_code, 1, (some .int), 4, 6, 140),
  (⟨"GreatestFlowModel", "isWay", "(I)Z"⟩, prog_6_method_31_code, 1, (some .boolean), 4, 0, 0),
  (⟨"GreatestFlowModel", "value", "(I)I"⟩, prog_6_method_32_code, 2, (some .int), 4, 6, 140),
  (⟨"GreatestFlowModel", "on", "(II)I"⟩, prog_6_method_33_code, 3, (some .int), 4, 6, 140),
  (⟨"GreatestFlowModel", "through", "(II)I"⟩, prog_6_method_34_code, 5, (some .int), 4, 6, 140),
  (⟨"GreatestFlowModel", "asKind", "(II)I"⟩, prog_6_method_35_code, 3, (some .int), 4, 6, 140),
  (⟨"GreatestFlowModel", "near", "(I)I"⟩, prog_6_method_36_code, 2, (some .int), 4, 7, 162),
  (⟨"GreatestFlowModel", "far", "(I)I"⟩, prog_6_method_37_code, 2, (some .int), 4, 7, 162),
  (⟨"GreatestFlowModel", "tight", "(I)I"⟩, prog_6_method_38_code, 2, (some .int), 4, 6, 140),
  (⟨"GreatestFlowModel", "barred", "(I)I"⟩, prog_6_method_39_code, 4, (some .int), 4, 6, 140),
  (⟨"GreatestFlowModel", "streams", "()I"⟩, prog_6_method_40_code, 1, (some .int), 4, 6, 140),
  (⟨"GreatestFlowModel", "stream", "(II)I"⟩, prog_6_method_41_code, 3, (some .int), 4, 6, 140),
  (⟨"java/lang/Math", "abs", "(I)I"⟩, prog_7_method_59_code, 1, (some .int), 5, 0, 0),
  (⟨"java/lang/Math", "max", "(II)I"⟩, prog_7_method_65_code, 2, (some .int), 5, 0, 0),
  (⟨"java/lang/Math", "min", "(II)I"⟩, prog_7_method_69_code, 2, (some .int), 5, 0, 0),
  (⟨"java/util/Arrays", "fill", "([II)V"⟩, prog_9_method_103_code, 4, none, 6, 0, 0)]
def gx_m (μ : Nat) : MethodName × ByteArray × Nat × Option FieldType × Nat × Nat × Nat := gx_mm.getD μ (⟨"", "", ""⟩, ⟨#[]⟩, 0, none, 0, 0, 0)
abbrev gx_y (μ : Nat) : MethodName := (gx_m μ).1
abbrev gx_code (μ : Nat) : ByteArray := (gx_m μ).2.1
abbrev gx_mL (μ : Nat) : Nat := (gx_m μ).2.2.1
abbrev gx_ret (μ : Nat) : Option FieldType := (gx_m μ).2.2.2.1
abbrev gx_on (μ : Nat) : Nat := (gx_m μ).2.2.2.2.1
abbrev gx_rm (μ : Nat) : Room := { frames := (gx_m μ).2.2.2.2.2.1, cells := 0, slots := 0, locals := (gx_m μ).2.2.2.2.2.2 }
def gx_wd (μ : Nat) : List Cond := .code (gx_y μ) (gx_code μ) (gx_mL μ) (gx_ret μ) :: gx_TBL
theorem gx_k0 : Cond.code (gx_y 0) (gx_code 0) (gx_mL 0) (gx_ret 0) ∈ gx_TBL := gx_in1 200 rfl rfl
theorem gx_k1 : Cond.code (gx_y 1) (gx_code 1) (gx_mL 1) (gx_ret 1) ∈ gx_TBL := gx_in1 224 rfl rfl
theorem gx_k2 : Cond.code (gx_y 2) (gx_code 2) (gx_mL 2) (gx_ret 2) ∈ gx_TBL := gx_in1 192 rfl rfl
theorem gx_k3 : Cond.code (gx_y 3) (gx_code 3) (gx_mL 3) (gx_ret 3) ∈ gx_TBL := gx_in1 216 rfl rfl
theorem gx_k4 : Cond.code (gx_y 4) (gx_code 4) (gx_mL 4) (gx_ret 4) ∈ gx_TBL := gx_in1 232 rfl rfl
theorem gx_k5 : Cond.code (gx_y 5) (gx_code 5) (gx_mL 5) (gx_ret 5) ∈ gx_TBL := gx_in2 0 rfl rfl
theorem gx_k6 : Cond.code (gx_y 6) (gx_code 6) (gx_mL 6) (gx_ret 6) ∈ gx_TBL := gx_in2 116 rfl rfl
theorem gx_k7 : Cond.code (gx_y 7) (gx_code 7) (gx_mL 7) (gx_ret 7) ∈ gx_TBL := gx_in2 120 rfl rfl
theorem gx_k8 : Cond.code (gx_y 8) (gx_code 8) (gx_mL 8) (gx_ret 8) ∈ gx_TBL := gx_in2 16 rfl rfl
theorem gx_k9 : Cond.code (gx_y 9) (gx_code 9) (gx_mL 9) (gx_ret 9) ∈ gx_TBL := gx_in2 29 rfl rfl
theorem gx_k10 : Cond.code (gx_y 10) (gx_code 10) (gx_mL 10) (gx_ret 10) ∈ gx_TBL := gx_in2 33 rfl rfl
theorem gx_k11 : Cond.code (gx_y 11) (gx_code 11) (gx_mL 11) (gx_ret 11) ∈ gx_TBL := gx_in2 77 rfl rfl
theorem gx_k12 : Cond.code (gx_y 12) (gx_code 12) (gx_mL 12) (gx_ret 12) ∈ gx_TBL := gx_in2 95 rfl rfl
theorem gx_k13 : Cond.code (gx_y 13) (gx_code 13) (gx_mL 13) (gx_ret 13) ∈ gx_TBL := gx_in2 104 rfl rfl
theorem gx_k14 : Cond.code (gx_y 14) (gx_code 14) (gx_mL 14) (gx_ret 14) ∈ gx_TBL := gx_in2 41 rfl rfl
theorem gx_k15 : Cond.code (gx_y 15) (gx_code 15) (gx_mL 15) (gx_ret 15) ∈ gx_TBL := gx_in2 45 rfl rfl
theorem gx_k16 : Cond.code (gx_y 16) (gx_code 16) (gx_mL 16) (gx_ret 16) ∈ gx_TBL := gx_in2 100 rfl rfl
theorem gx_k17 : Cond.code (gx_y 17) (gx_code 17) (gx_mL 17) (gx_ret 17) ∈ gx_TBL := gx_in2 52 rfl rfl
theorem gx_k18 : Cond.code (gx_y 18) (gx_code 18) (gx_mL 18) (gx_ret 18) ∈ gx_TBL := gx_in2 56 rfl rfl
theorem gx_k19 : Cond.code (gx_y 19) (gx_code 19) (gx_mL 19) (gx_ret 19) ∈ gx_TBL := gx_in2 68 rfl rfl
theorem gx_k20 : Cond.code (gx_y 20) (gx_code 20) (gx_mL 20) (gx_ret 20) ∈ gx_TBL := gx_in2 73 rfl rfl
theorem gx_k21 : Cond.code (gx_y 21) (gx_code 21) (gx_mL 21) (gx_ret 21) ∈ gx_TBL := gx_in2 60 rfl rfl
theorem gx_k22 : Cond.code (gx_y 22) (gx_code 22) (gx_mL 22) (gx_ret 22) ∈ gx_TBL := gx_in2 64 rfl rfl
theorem gx_k23 : Cond.code (gx_y 23) (gx_code 23) (gx_mL 23) (gx_ret 23) ∈ gx_TBL := gx_in2 204 rfl rfl
theorem gx_k24 : Cond.code (gx_y 24) (gx_code 24) (gx_mL 24) (gx_ret 24) ∈ gx_TBL := gx_in2 163 rfl rfl
theorem gx_k25 : Cond.code (gx_y 25) (gx_code 25) (gx_mL 25) (gx_ret 25) ∈ gx_TBL := gx_in2 173 rfl rfl
theorem gx_k26 : Cond.code (gx_y 26) (gx_code 26) (gx_mL 26) (gx_ret 26) ∈ gx_TBL := gx_in2 177 rfl rfl
theorem gx_k27 : Cond.code (gx_y 27) (gx_code 27) (gx_mL 27) (gx_ret 27) ∈ gx_TBL := gx_in2 196 rfl rfl
theorem gx_k28 : Cond.code (gx_y 28) (gx_code 28) (gx_mL 28) (gx_ret 28) ∈ gx_TBL := gx_in2 182 rfl rfl
theorem gx_k29 : Cond.code (gx_y 29) (gx_code 29) (gx_mL 29) (gx_ret 29) ∈ gx_TBL := gx_in2 186 rfl rfl
theorem gx_k30 : Cond.code (gx_y 30) (gx_code 30) (gx_mL 30) (gx_ret 30) ∈ gx_TBL := gx_in2 192 rfl rfl
theorem gx_k31 : Cond.code (gx_y 31) (gx_code 31) (gx_mL 31) (gx_ret 31) ∈ gx_TBL := gx_in1 184 rfl rfl
theorem gx_k32 : Cond.code (gx_y 32) (gx_code 32) (gx_mL 32) (gx_ret 32) ∈ gx_TBL := gx_in1 196 rfl rfl
theorem gx_k33 : Cond.code (gx_y 33) (gx_code 33) (gx_mL 33) (gx_ret 33) ∈ gx_TBL := gx_in1 204 rfl rfl
theorem gx_k34 : Cond.code (gx_y 34) (gx_code 34) (gx_mL 34) (gx_ret 34) ∈ gx_TBL := gx_in1 209 rfl rfl
theorem gx_k35 : Cond.code (gx_y 35) (gx_code 35) (gx_mL 35) (gx_ret 35) ∈ gx_TBL := gx_in1 220 rfl rfl
theorem gx_k36 : Cond.code (gx_y 36) (gx_code 36) (gx_mL 36) (gx_ret 36) ∈ gx_TBL := gx_in1 228 rfl rfl
theorem gx_k37 : Cond.code (gx_y 37) (gx_code 37) (gx_mL 37) (gx_ret 37) ∈ gx_TBL := gx_in1 236 rfl rfl
theorem gx_k38 : Cond.code (gx_y 38) (gx_code 38) (gx_mL 38) (gx_ret 38) ∈ gx_TBL := gx_in2 4 rfl rfl
theorem gx_k39 : Cond.code (gx_y 39) (gx_code 39) (gx_mL 39) (gx_ret 39) ∈ gx_TBL := gx_in2 84 rfl rfl
theorem gx_k40 : Cond.code (gx_y 40) (gx_code 40) (gx_mL 40) (gx_ret 40) ∈ gx_TBL := gx_in2 108 rfl rfl
theorem gx_k41 : Cond.code (gx_y 41) (gx_code 41) (gx_mL 41) (gx_ret 41) ∈ gx_TBL := gx_in2 112 rfl rfl
theorem gx_k42 : Cond.code (gx_y 42) (gx_code 42) (gx_mL 42) (gx_ret 42) ∈ gx_TBL := gx_in2 127 rfl rfl
theorem gx_k43 : Cond.code (gx_y 43) (gx_code 43) (gx_mL 43) (gx_ret 43) ∈ gx_TBL := gx_in2 139 rfl rfl
theorem gx_k44 : Cond.code (gx_y 44) (gx_code 44) (gx_mL 44) (gx_ret 44) ∈ gx_TBL := gx_in2 143 rfl rfl
theorem gx_k45 : Cond.code (gx_y 45) (gx_code 45) (gx_mL 45) (gx_ret 45) ∈ gx_TBL := gx_in2 147 rfl rfl
theorem gx_k46 : Cond.code (gx_y 46) (gx_code 46) (gx_mL 46) (gx_ret 46) ∈ gx_TBL := gx_in2 155 rfl rfl
theorem gx_k47 : Cond.code (gx_y 47) (gx_code 47) (gx_mL 47) (gx_ret 47) ∈ gx_TBL := gx_in2 200 rfl rfl
theorem gx_k48 : Cond.code (gx_y 48) (gx_code 48) (gx_mL 48) (gx_ret 48) ∈ gx_TBL := gx_in2 87 rfl rfl
theorem gx_k49 : Cond.code (gx_y 49) (gx_code 49) (gx_mL 49) (gx_ret 49) ∈ gx_TBL := gx_in1 212 rfl rfl
theorem gx_k50 : Cond.code (gx_y 50) (gx_code 50) (gx_mL 50) (gx_ret 50) ∈ gx_TBL := gx_in2 22 rfl rfl
theorem gx_k51 : Cond.code (gx_y 51) (gx_code 51) (gx_mL 51) (gx_ret 51) ∈ gx_TBL := gx_in2 25 rfl rfl
theorem gx_k52 : Cond.code (gx_y 52) (gx_code 52) (gx_mL 52) (gx_ret 52) ∈ gx_TBL := gx_in1 188 rfl rfl
theorem gx_k53 : Cond.code (gx_y 53) (gx_code 53) (gx_mL 53) (gx_ret 53) ∈ gx_TBL := gx_in2 8 rfl rfl
theorem gx_k54 : Cond.code (gx_y 54) (gx_code 54) (gx_mL 54) (gx_ret 54) ∈ gx_TBL := gx_in2 91 rfl rfl
theorem gx_k55 : Cond.code (gx_y 55) (gx_code 55) (gx_mL 55) (gx_ret 55) ∈ gx_TBL := gx_in2 12 rfl rfl
theorem gx_k56 : Cond.code (gx_y 56) (gx_code 56) (gx_mL 56) (gx_ret 56) ∈ gx_TBL := gx_in2 37 rfl rfl
theorem gx_k57 : Cond.code (gx_y 57) (gx_code 57) (gx_mL 57) (gx_ret 57) ∈ gx_TBL := gx_in2 135 rfl rfl
theorem gx_k58 : Cond.code (gx_y 58) (gx_code 58) (gx_mL 58) (gx_ret 58) ∈ gx_TBL := gx_in2 131 rfl rfl
theorem gx_k59 : Cond.code (gx_y 59) (gx_code 59) (gx_mL 59) (gx_ret 59) ∈ gx_TBL := gx_in2 151 rfl rfl
theorem gx_k60 : Cond.code (gx_y 60) (gx_code 60) (gx_mL 60) (gx_ret 60) ∈ gx_TBL := gx_in2 159 rfl rfl
theorem gx_k61 : Cond.code (gx_y 61) (gx_code 61) (gx_mL 61) (gx_ret 61) ∈ gx_TBL := gx_in3 123 rfl rfl
theorem gx_k62 : Cond.code (gx_y 62) (gx_code 62) (gx_mL 62) (gx_ret 62) ∈ gx_TBL := gx_in3 119 rfl rfl
theorem gx_k63 : Cond.code (gx_y 63) (gx_code 63) (gx_mL 63) (gx_ret 63) ∈ gx_TBL := gx_in3 127 rfl rfl
theorem gx_k64 : Cond.code (gx_y 64) (gx_code 64) (gx_mL 64) (gx_ret 64) ∈ gx_TBL := gx_in3 115 rfl rfl
theorem gx_k65 : Cond.code (gx_y 65) (gx_code 65) (gx_mL 65) (gx_ret 65) ∈ gx_TBL := gx_in3 110 rfl rfl
theorem gx_k66 : Cond.code (gx_y 66) (gx_code 66) (gx_mL 66) (gx_ret 66) ∈ gx_TBL := gx_in3 135 rfl rfl
theorem gx_k67 : Cond.code (gx_y 67) (gx_code 67) (gx_mL 67) (gx_ret 67) ∈ gx_TBL := gx_in3 139 rfl rfl
theorem gx_k68 : Cond.code (gx_y 68) (gx_code 68) (gx_mL 68) (gx_ret 68) ∈ gx_TBL := gx_in3 131 rfl rfl
theorem gx_k69 : Cond.code (gx_y 69) (gx_code 69) (gx_mL 69) (gx_ret 69) ∈ gx_TBL := gx_in3 175 rfl rfl
theorem gx_k70 : Cond.code (gx_y 70) (gx_code 70) (gx_mL 70) (gx_ret 70) ∈ gx_TBL := gx_in3 106 rfl rfl
theorem gx_k71 : Cond.code (gx_y 71) (gx_code 71) (gx_mL 71) (gx_ret 71) ∈ gx_TBL := gx_in3 151 rfl rfl
theorem gx_k72 : Cond.code (gx_y 72) (gx_code 72) (gx_mL 72) (gx_ret 72) ∈ gx_TBL := gx_in3 147 rfl rfl
theorem gx_k73 : Cond.code (gx_y 73) (gx_code 73) (gx_mL 73) (gx_ret 73) ∈ gx_TBL := gx_in3 163 rfl rfl
theorem gx_k74 : Cond.code (gx_y 74) (gx_code 74) (gx_mL 74) (gx_ret 74) ∈ gx_TBL := gx_in3 167 rfl rfl
theorem gx_k75 : Cond.code (gx_y 75) (gx_code 75) (gx_mL 75) (gx_ret 75) ∈ gx_TBL := gx_in3 171 rfl rfl
theorem gx_k76 : Cond.code (gx_y 76) (gx_code 76) (gx_mL 76) (gx_ret 76) ∈ gx_TBL := gx_in3 143 rfl rfl
theorem gx_k77 : Cond.code (gx_y 77) (gx_code 77) (gx_mL 77) (gx_ret 77) ∈ gx_TBL := gx_in3 155 rfl rfl
theorem gx_k78 : Cond.code (gx_y 78) (gx_code 78) (gx_mL 78) (gx_ret 78) ∈ gx_TBL := gx_in3 159 rfl rfl
theorem gx_k79 : Cond.code (gx_y 79) (gx_code 79) (gx_mL 79) (gx_ret 79) ∈ gx_TBL := gx_in3 70 rfl rfl
theorem gx_k80 : Cond.code (gx_y 80) (gx_code 80) (gx_mL 80) (gx_ret 80) ∈ gx_TBL := gx_in3 90 rfl rfl
theorem gx_k81 : Cond.code (gx_y 81) (gx_code 81) (gx_mL 81) (gx_ret 81) ∈ gx_TBL := gx_in3 82 rfl rfl
theorem gx_k82 : Cond.code (gx_y 82) (gx_code 82) (gx_mL 82) (gx_ret 82) ∈ gx_TBL := gx_in3 62 rfl rfl
theorem gx_k83 : Cond.code (gx_y 83) (gx_code 83) (gx_mL 83) (gx_ret 83) ∈ gx_TBL := gx_in3 66 rfl rfl
theorem gx_k84 : Cond.code (gx_y 84) (gx_code 84) (gx_mL 84) (gx_ret 84) ∈ gx_TBL := gx_in3 74 rfl rfl
theorem gx_k85 : Cond.code (gx_y 85) (gx_code 85) (gx_mL 85) (gx_ret 85) ∈ gx_TBL := gx_in3 79 rfl rfl
theorem gx_k86 : Cond.code (gx_y 86) (gx_code 86) (gx_mL 86) (gx_ret 86) ∈ gx_TBL := gx_in3 86 rfl rfl
theorem gx_k87 : Cond.code (gx_y 87) (gx_code 87) (gx_mL 87) (gx_ret 87) ∈ gx_TBL := gx_in3 94 rfl rfl
theorem gx_k88 : Cond.code (gx_y 88) (gx_code 88) (gx_mL 88) (gx_ret 88) ∈ gx_TBL := gx_in3 98 rfl rfl
theorem gx_k89 : Cond.code (gx_y 89) (gx_code 89) (gx_mL 89) (gx_ret 89) ∈ gx_TBL := gx_in3 102 rfl rfl
theorem gx_k90 : Cond.code (gx_y 90) (gx_code 90) (gx_mL 90) (gx_ret 90) ∈ gx_TBL := gx_in3 182 rfl rfl
theorem gx_k91 : Cond.code (gx_y 91) (gx_code 91) (gx_mL 91) (gx_ret 91) ∈ gx_TBL := gx_in3 179 rfl rfl
theorem gx_k92 : Cond.code (gx_y 92) (gx_code 92) (gx_mL 92) (gx_ret 92) ∈ gx_TBL := gx_in3 186 rfl rfl
theorem gx_k93 : Cond.code (gx_y 93) (gx_code 93) (gx_mL 93) (gx_ret 93) ∈ gx_TBL := gx_in3 190 rfl rfl
theorem gx_k94 : Cond.code (gx_y 94) (gx_code 94) (gx_mL 94) (gx_ret 94) ∈ gx_TBL := gx_in3 198 rfl rfl
theorem gx_k95 : Cond.code (gx_y 95) (gx_code 95) (gx_mL 95) (gx_ret 95) ∈ gx_TBL := gx_in3 194 rfl rfl
theorem gx_k96 : Cond.code (gx_y 96) (gx_code 96) (gx_mL 96) (gx_ret 96) ∈ gx_TBL := gx_in3 202 rfl rfl
theorem gx_k97 : Cond.code (gx_y 97) (gx_code 97) (gx_mL 97) (gx_ret 97) ∈ gx_TBL := gx_in3 206 rfl rfl
theorem gx_k98 : Cond.code (gx_y 98) (gx_code 98) (gx_mL 98) (gx_ret 98) ∈ gx_TBL := gx_in3 210 rfl rfl
theorem gx_k99 : Cond.code (gx_y 99) (gx_code 99) (gx_mL 99) (gx_ret 99) ∈ gx_TBL := gx_in3 214 rfl rfl
theorem gx_k100 : Cond.code (gx_y 100) (gx_code 100) (gx_mL 100) (gx_ret 100) ∈ gx_TBL := gx_in3 218 rfl rfl
theorem gx_k101 : Cond.code (gx_y 101) (gx_code 101) (gx_mL 101) (gx_ret 101) ∈ gx_TBL := gx_in2 169 rfl rfl
theorem gx_k102 : Cond.code (gx_y 102) (gx_code 102) (gx_mL 102) (gx_ret 102) ∈ gx_TBL := gx_in2 123 rfl rfl
theorem gx_k103 : Cond.code (gx_y 103) (gx_code 103) (gx_mL 103) (gx_ret 103) ∈ gx_TBL := gx_in2 48 rfl rfl
theorem gx_k104 : Cond.code (gx_y 104) (gx_code 104) (gx_mL 104) (gx_ret 104) ∈ gx_TBL := gx_in2 19 rfl rfl
end
section
/-! Links; places: printed by wip/gen.py. -/
def gx_os (k : Nat) : String := match k with
  | 0 => "GreatestFlow$Graph"
  | 1 => "GreatestFlow$Net"
  | 2 => "GreatestFlow$Parts"
  | 3 => "GreatestFlow"
  | 4 => "GreatestFlowModel"
  | 5 => "java/lang/Math"
  | _ => "java/util/Arrays"
set_option maxRecDepth 20000 in
theorem gx_own : ∀ μ, μ < 105 → (gx_y μ).cls = gx_os (gx_on μ) := by decide +kernel
set_option maxRecDepth 20000 in
theorem gx_pln : ∀ μ, μ < 105 → plainFor (gx_y μ) = true := by decide +kernel
theorem gx_nf : ∀ (ci : Nat) (q : vw_C), gx_cl[ci]? = some q → ∀ k, k < q.2.2 → (gx_ty ci k = .int ∨ gx_ty ci k = .boolean) → (q.2.1 k).2.2.2 = false := by
  intro ci q h
  match ci, h with
  | 0, h => cases h; decide +kernel
  | 1, h => cases h; decide +kernel
  | 2, h => cases h; decide +kernel
  | 3, h => cases h; decide +kernel
  | 4, h => cases h; decide +kernel
  | k + 5, h => cases h
/-- owner and place in its pool; then the kind of object and the field -/
def gx_fT : List ((Nat × Nat) × (Nat × Nat)) := [((0, 9), (0, 0)), ((0, 15), (0, 1)), ((0, 18), (0, 2)), ((0, 21), (0, 3)), ((0, 24), (0, 4)), ((0, 27), (0, 5)), ((0, 30), (0, 6)), ((0, 34), (0, 7)), ((0, 38), (0, 8)), ((0, 41), (0, 9)), ((1, 9), (1, 0)), ((1, 15), (1, 1)), ((1, 18), (1, 2)), ((1, 21), (1, 3)), ((1, 24), (1, 4)), ((1, 27), (1, 5)), ((1, 31), (1, 6)), ((1, 34), (1, 7)), ((1, 37), (1, 8)), ((1, 40), (1, 9)), ((2, 9), (2, 0)), ((2, 15), (2, 1)), ((2, 18), (2, 3)), ((2, 21), (2, 4)), ((2, 24), (2, 5)), ((2, 27), (2, 6)), ((2, 30), (2, 7)), ((2, 33), (2, 2)), ((2, 43), (0, 7)), ((2, 69), (0, 0)), ((2, 93), (0, 3)), ((2, 96), (0, 8)), ((2, 99), (0, 2)), ((3, 12), (3, 0)), ((3, 19), (3, 1)), ((3, 26), (3, 2)), ((3, 30), (3, 3)), ((3, 36), (3, 4)), ((3, 39), (3, 5)), ((3, 43), (3, 6)), ((3, 46), (0, 7)), ((3, 61), (0, 0)), ((3, 65), (0, 1)), ((3, 72), (0, 8)), ((3, 82), (0, 4)), ((3, 85), (0, 5)), ((3, 125), (1, 1)), ((3, 131), (3, 8)), ((3, 138), (3, 7)), ((3, 144), (2, 2)), ((3, 147), (2, 0)), ((3, 150), (2, 1)), ((3, 156), (3, 10)), ((3, 159), (3, 9)), ((3, 168), (3, 11)), ((3, 202), (0, 2)), ((3, 205), (0, 3)), ((3, 208), (1, 0)), ((4, 7), (4, 1)), ((4, 13), (4, 2)), ((4, 16), (4, 4)), ((4, 19), (4, 5)), ((4, 22), (4, 6)), ((4, 25), (4, 7)), ((4, 28), (4, 8)), ((4, 32), (4, 10)), ((4, 35), (4, 11)), ((4, 38), (4, 12)), ((4, 41), (4, 13)), ((4, 44), (4, 14)), ((4, 47), (4, 15)), ((4, 50), (4, 18)), ((4, 53), (4, 19)), ((4, 56), (4, 20)), ((4, 59), (4, 22)), ((4, 62), (4, 23)), ((4, 65), (4, 24)), ((4, 68), (4, 25)), ((4, 71), (4, 26)), ((4, 74), (4, 27)), ((4, 77), (4, 28)), ((4, 80), (4, 16)), ((4, 84), (4, 3)), ((4, 91), (4, 0)), ((4, 117), (4, 9)), ((4, 121), (4, 17)), ((4, 134), (4, 21))]
def gx_fok (q : (Nat × Nat) × (Nat × Nat)) : Prop := ∃ C T N, gx_cl[q.2.1]? = some (C, T, N) ∧ q.2.2 < N ∧ Cond.fieldLink (gx_os q.1.1) q.1.2 (T q.2.2).1 (T q.2.2).2.1 (T q.2.2).2.2.1 ∈ gx_TBL
theorem gx_f0 : gx_fok ((0, 9), (0, 0)) := ⟨_, _, _, rfl, by decide, gx_in1 23 rfl rfl⟩
theorem gx_f1 : gx_fok ((0, 15), (0, 1)) := ⟨_, _, _, rfl, by decide, gx_in1 26 rfl rfl⟩
theorem gx_f2 : gx_fok ((0, 18), (0, 2)) := ⟨_, _, _, rfl, by decide, gx_in1 28 rfl rfl⟩
theorem gx_f3 : gx_fok ((0, 21), (0, 3)) := ⟨_, _, _, rfl, by decide, gx_in1 31 rfl rfl⟩
theorem gx_f4 : gx_fok ((0, 24), (0, 4)) := ⟨_, _, _, rfl, by decide, gx_in1 34 rfl rfl⟩
theorem gx_f5 : gx_fok ((0, 27), (0, 5)) := ⟨_, _, _, rfl, by decide, gx_in1 36 rfl rfl⟩
theorem gx_f6 : gx_fok ((0, 30), (0, 6)) := ⟨_, _, _, rfl, by decide, gx_in1 38 rfl rfl⟩
theorem gx_f7 : gx_fok ((0, 34), (0, 7)) := ⟨_, _, _, rfl, by decide, gx_in1 40 rfl rfl⟩
theorem gx_f8 : gx_fok ((0, 38), (0, 8)) := ⟨_, _, _, rfl, by decide, gx_in1 42 rfl rfl⟩
theorem gx_f9 : gx_fok ((0, 41), (0, 9)) := ⟨_, _, _, rfl, by decide, gx_in1 45 rfl rfl⟩
theorem gx_f10 : gx_fok ((1, 9), (1, 0)) := ⟨_, _, _, rfl, by decide, gx_in1 75 rfl rfl⟩
theorem gx_f11 : gx_fok ((1, 15), (1, 1)) := ⟨_, _, _, rfl, by decide, gx_in1 77 rfl rfl⟩
theorem gx_f12 : gx_fok ((1, 18), (1, 2)) := ⟨_, _, _, rfl, by decide, gx_in1 79 rfl rfl⟩
theorem gx_f13 : gx_fok ((1, 21), (1, 3)) := ⟨_, _, _, rfl, by decide, gx_in1 80 rfl rfl⟩
theorem gx_f14 : gx_fok ((1, 24), (1, 4)) := ⟨_, _, _, rfl, by decide, gx_in1 81 rfl rfl⟩
theorem gx_f15 : gx_fok ((1, 27), (1, 5)) := ⟨_, _, _, rfl, by decide, gx_in1 82 rfl rfl⟩
theorem gx_f16 : gx_fok ((1, 31), (1, 6)) := ⟨_, _, _, rfl, by decide, gx_in1 83 rfl rfl⟩
theorem gx_f17 : gx_fok ((1, 34), (1, 7)) := ⟨_, _, _, rfl, by decide, gx_in1 84 rfl rfl⟩
theorem gx_f18 : gx_fok ((1, 37), (1, 8)) := ⟨_, _, _, rfl, by decide, gx_in1 85 rfl rfl⟩
theorem gx_f19 : gx_fok ((1, 40), (1, 9)) := ⟨_, _, _, rfl, by decide, gx_in1 86 rfl rfl⟩
theorem gx_f20 : gx_fok ((2, 9), (2, 0)) := ⟨_, _, _, rfl, by decide, gx_in1 114 rfl rfl⟩
theorem gx_f21 : gx_fok ((2, 15), (2, 1)) := ⟨_, _, _, rfl, by decide, gx_in1 116 rfl rfl⟩
theorem gx_f22 : gx_fok ((2, 18), (2, 3)) := ⟨_, _, _, rfl, by decide, gx_in1 120 rfl rfl⟩
theorem gx_f23 : gx_fok ((2, 21), (2, 4)) := ⟨_, _, _, rfl, by decide, gx_in1 121 rfl rfl⟩
theorem gx_f24 : gx_fok ((2, 24), (2, 5)) := ⟨_, _, _, rfl, by decide, gx_in1 122 rfl rfl⟩
theorem gx_f25 : gx_fok ((2, 27), (2, 6)) := ⟨_, _, _, rfl, by decide, gx_in1 123 rfl rfl⟩
theorem gx_f26 : gx_fok ((2, 30), (2, 7)) := ⟨_, _, _, rfl, by decide, gx_in1 124 rfl rfl⟩
theorem gx_f27 : gx_fok ((2, 33), (2, 2)) := ⟨_, _, _, rfl, by decide, gx_in1 118 rfl rfl⟩
theorem gx_f28 : gx_fok ((2, 43), (0, 7)) := ⟨_, _, _, rfl, by decide, gx_in1 41 rfl rfl⟩
theorem gx_f29 : gx_fok ((2, 69), (0, 0)) := ⟨_, _, _, rfl, by decide, gx_in1 25 rfl rfl⟩
theorem gx_f30 : gx_fok ((2, 93), (0, 3)) := ⟨_, _, _, rfl, by decide, gx_in1 32 rfl rfl⟩
theorem gx_f31 : gx_fok ((2, 96), (0, 8)) := ⟨_, _, _, rfl, by decide, gx_in1 44 rfl rfl⟩
theorem gx_f32 : gx_fok ((2, 99), (0, 2)) := ⟨_, _, _, rfl, by decide, gx_in1 29 rfl rfl⟩
theorem gx_f33 : gx_fok ((3, 12), (3, 0)) := ⟨_, _, _, rfl, by decide, gx_in1 144 rfl rfl⟩
theorem gx_f34 : gx_fok ((3, 19), (3, 1)) := ⟨_, _, _, rfl, by decide, gx_in1 145 rfl rfl⟩
theorem gx_f35 : gx_fok ((3, 26), (3, 2)) := ⟨_, _, _, rfl, by decide, gx_in1 146 rfl rfl⟩
theorem gx_f36 : gx_fok ((3, 30), (3, 3)) := ⟨_, _, _, rfl, by decide, gx_in1 147 rfl rfl⟩
theorem gx_f37 : gx_fok ((3, 36), (3, 4)) := ⟨_, _, _, rfl, by decide, gx_in1 148 rfl rfl⟩
theorem gx_f38 : gx_fok ((3, 39), (3, 5)) := ⟨_, _, _, rfl, by decide, gx_in1 149 rfl rfl⟩
theorem gx_f39 : gx_fok ((3, 43), (3, 6)) := ⟨_, _, _, rfl, by decide, gx_in1 150 rfl rfl⟩
theorem gx_f40 : gx_fok ((3, 46), (0, 7)) := ⟨_, _, _, rfl, by decide, gx_in1 39 rfl rfl⟩
theorem gx_f41 : gx_fok ((3, 61), (0, 0)) := ⟨_, _, _, rfl, by decide, gx_in1 24 rfl rfl⟩
theorem gx_f42 : gx_fok ((3, 65), (0, 1)) := ⟨_, _, _, rfl, by decide, gx_in1 27 rfl rfl⟩
theorem gx_f43 : gx_fok ((3, 72), (0, 8)) := ⟨_, _, _, rfl, by decide, gx_in1 43 rfl rfl⟩
theorem gx_f44 : gx_fok ((3, 82), (0, 4)) := ⟨_, _, _, rfl, by decide, gx_in1 35 rfl rfl⟩
theorem gx_f45 : gx_fok ((3, 85), (0, 5)) := ⟨_, _, _, rfl, by decide, gx_in1 37 rfl rfl⟩
theorem gx_f46 : gx_fok ((3, 125), (1, 1)) := ⟨_, _, _, rfl, by decide, gx_in1 78 rfl rfl⟩
theorem gx_f47 : gx_fok ((3, 131), (3, 8)) := ⟨_, _, _, rfl, by decide, gx_in1 152 rfl rfl⟩
theorem gx_f48 : gx_fok ((3, 138), (3, 7)) := ⟨_, _, _, rfl, by decide, gx_in1 151 rfl rfl⟩
theorem gx_f49 : gx_fok ((3, 144), (2, 2)) := ⟨_, _, _, rfl, by decide, gx_in1 119 rfl rfl⟩
theorem gx_f50 : gx_fok ((3, 147), (2, 0)) := ⟨_, _, _, rfl, by decide, gx_in1 115 rfl rfl⟩
theorem gx_f51 : gx_fok ((3, 150), (2, 1)) := ⟨_, _, _, rfl, by decide, gx_in1 117 rfl rfl⟩
theorem gx_f52 : gx_fok ((3, 156), (3, 10)) := ⟨_, _, _, rfl, by decide, gx_in1 154 rfl rfl⟩
theorem gx_f53 : gx_fok ((3, 159), (3, 9)) := ⟨_, _, _, rfl, by decide, gx_in1 153 rfl rfl⟩
theorem gx_f54 : gx_fok ((3, 168), (3, 11)) := ⟨_, _, _, rfl, by decide, gx_in1 155 rfl rfl⟩
theorem gx_f55 : gx_fok ((3, 202), (0, 2)) := ⟨_, _, _, rfl, by decide, gx_in1 30 rfl rfl⟩
theorem gx_f56 : gx_fok ((3, 205), (0, 3)) := ⟨_, _, _, rfl, by decide, gx_in1 33 rfl rfl⟩
theorem gx_f57 : gx_fok ((3, 208), (1, 0)) := ⟨_, _, _, rfl, by decide, gx_in1 76 rfl rfl⟩
theorem gx_f58 : gx_fok ((4, 7), (4, 1)) := ⟨_, _, _, rfl, by decide, gx_in2 212 rfl rfl⟩
theorem gx_f59 : gx_fok ((4, 13), (4, 2)) := ⟨_, _, _, rfl, by decide, gx_in2 213 rfl rfl⟩
theorem gx_f60 : gx_fok ((4, 16), (4, 4)) := ⟨_, _, _, rfl, by decide, gx_in2 215 rfl rfl⟩
theorem gx_f61 : gx_fok ((4, 19), (4, 5)) := ⟨_, _, _, rfl, by decide, gx_in2 216 rfl rfl⟩
theorem gx_f62 : gx_fok ((4, 22), (4, 6)) := ⟨_, _, _, rfl, by decide, gx_in2 217 rfl rfl⟩
theorem gx_f63 : gx_fok ((4, 25), (4, 7)) := ⟨_, _, _, rfl, by decide, gx_in2 218 rfl rfl⟩
theorem gx_f64 : gx_fok ((4, 28), (4, 8)) := ⟨_, _, _, rfl, by decide, gx_in2 219 rfl rfl⟩
theorem gx_f65 : gx_fok ((4, 32), (4, 10)) := ⟨_, _, _, rfl, by decide, gx_in2 221 rfl rfl⟩
theorem gx_f66 : gx_fok ((4, 35), (4, 11)) := ⟨_, _, _, rfl, by decide, gx_in2 222 rfl rfl⟩
theorem gx_f67 : gx_fok ((4, 38), (4, 12)) := ⟨_, _, _, rfl, by decide, gx_in2 223 rfl rfl⟩
theorem gx_f68 : gx_fok ((4, 41), (4, 13)) := ⟨_, _, _, rfl, by decide, gx_in2 224 rfl rfl⟩
theorem gx_f69 : gx_fok ((4, 44), (4, 14)) := ⟨_, _, _, rfl, by decide, gx_in2 225 rfl rfl⟩
theorem gx_f70 : gx_fok ((4, 47), (4, 15)) := ⟨_, _, _, rfl, by decide, gx_in2 226 rfl rfl⟩
theorem gx_f71 : gx_fok ((4, 50), (4, 18)) := ⟨_, _, _, rfl, by decide, gx_in2 229 rfl rfl⟩
theorem gx_f72 : gx_fok ((4, 53), (4, 19)) := ⟨_, _, _, rfl, by decide, gx_in2 230 rfl rfl⟩
theorem gx_f73 : gx_fok ((4, 56), (4, 20)) := ⟨_, _, _, rfl, by decide, gx_in2 231 rfl rfl⟩
theorem gx_f74 : gx_fok ((4, 59), (4, 22)) := ⟨_, _, _, rfl, by decide, gx_in2 233 rfl rfl⟩
theorem gx_f75 : gx_fok ((4, 62), (4, 23)) := ⟨_, _, _, rfl, by decide, gx_in2 234 rfl rfl⟩
theorem gx_f76 : gx_fok ((4, 65), (4, 24)) := ⟨_, _, _, rfl, by decide, gx_in2 235 rfl rfl⟩
theorem gx_f77 : gx_fok ((4, 68), (4, 25)) := ⟨_, _, _, rfl, by decide, gx_in2 236 rfl rfl⟩
theorem gx_f78 : gx_fok ((4, 71), (4, 26)) := ⟨_, _, _, rfl, by decide, gx_in2 237 rfl rfl⟩
theorem gx_f79 : gx_fok ((4, 74), (4, 27)) := ⟨_, _, _, rfl, by decide, gx_in2 238 rfl rfl⟩
theorem gx_f80 : gx_fok ((4, 77), (4, 28)) := ⟨_, _, _, rfl, by decide, gx_in2 239 rfl rfl⟩
theorem gx_f81 : gx_fok ((4, 80), (4, 16)) := ⟨_, _, _, rfl, by decide, gx_in2 227 rfl rfl⟩
theorem gx_f82 : gx_fok ((4, 84), (4, 3)) := ⟨_, _, _, rfl, by decide, gx_in2 214 rfl rfl⟩
theorem gx_f83 : gx_fok ((4, 91), (4, 0)) := ⟨_, _, _, rfl, by decide, gx_in2 211 rfl rfl⟩
theorem gx_f84 : gx_fok ((4, 117), (4, 9)) := ⟨_, _, _, rfl, by decide, gx_in2 220 rfl rfl⟩
theorem gx_f85 : gx_fok ((4, 121), (4, 17)) := ⟨_, _, _, rfl, by decide, gx_in2 228 rfl rfl⟩
theorem gx_f86 : gx_fok ((4, 134), (4, 21)) := ⟨_, _, _, rfl, by decide, gx_in2 232 rfl rfl⟩
set_option maxRecDepth 20000 in
theorem gx_fTok : ∀ q ∈ gx_fT, gx_fok q := List.forall_mem_cons.mpr ⟨gx_f0, List.forall_mem_cons.mpr ⟨gx_f1, List.forall_mem_cons.mpr ⟨gx_f2, List.forall_mem_cons.mpr ⟨gx_f3, List.forall_mem_cons.mpr ⟨gx_f4, List.forall_mem_cons.mpr ⟨gx_f5, List.forall_mem_cons.mpr ⟨gx_f6, List.forall_mem_cons.mpr ⟨gx_f7, List.forall_mem_cons.mpr ⟨gx_f8, List.forall_mem_cons.mpr ⟨gx_f9, List.forall_mem_cons.mpr ⟨gx_f10, List.forall_mem_cons.mpr ⟨gx_f11, List.forall_mem_cons.mpr ⟨gx_f12, List.forall_mem_cons.mpr ⟨gx_f13, List.forall_mem_cons.mpr ⟨gx_f14, List.forall_mem_cons.mpr ⟨gx_f15, List.forall_mem_cons.mpr ⟨gx_f16, List.forall_mem_cons.mpr ⟨gx_f17, List.forall_mem_cons.mpr ⟨gx_f18, List.forall_mem_cons.mpr ⟨gx_f19, List.forall_mem_cons.mpr ⟨gx_f20, List.forall_mem_cons.mpr ⟨gx_f21, List.forall_mem_cons.mpr ⟨gx_f22, List.forall_mem_cons.mpr ⟨gx_f23, List.forall_mem_cons.mpr ⟨gx_f24, List.forall_mem_cons.mpr ⟨gx_f25, List.forall_mem_cons.mpr ⟨gx_f26, List.forall_mem_cons.mpr ⟨gx_f27, List.forall_mem_cons.mpr ⟨gx_f28, List.forall_mem_cons.mpr ⟨gx_f29, List.forall_mem_cons.mpr ⟨gx_f30, List.forall_mem_cons.mpr ⟨gx_f31, List.forall_mem_cons.mpr ⟨gx_f32, List.forall_mem_cons.mpr ⟨gx_f33, List.forall_mem_cons.mpr ⟨gx_f34, List.forall_mem_cons.mpr ⟨gx_f35, List.forall_mem_cons.mpr ⟨gx_f36, List.forall_mem_cons.mpr ⟨gx_f37, List.forall_mem_cons.mpr ⟨gx_f38, List.forall_mem_cons.mpr ⟨gx_f39, List.forall_mem_cons.mpr ⟨gx_f40, List.forall_mem_cons.mpr ⟨gx_f41, List.forall_mem_cons.mpr ⟨gx_f42, List.forall_mem_cons.mpr ⟨gx_f43, List.forall_mem_cons.mpr ⟨gx_f44, List.forall_mem_cons.mpr ⟨gx_f45, List.forall_mem_cons.mpr ⟨gx_f46, List.forall_mem_cons.mpr ⟨gx_f47, List.forall_mem_cons.mpr ⟨gx_f48, List.forall_mem_cons.mpr ⟨gx_f49, List.forall_mem_cons.mpr ⟨gx_f50, List.forall_mem_cons.mpr ⟨gx_f51, List.forall_mem_cons.mpr ⟨gx_f52, List.forall_mem_cons.mpr ⟨gx_f53, List.forall_mem_cons.mpr ⟨gx_f54, List.forall_mem_cons.mpr ⟨gx_f55, List.forall_mem_cons.mpr ⟨gx_f56, List.forall_mem_cons.mpr ⟨gx_f57, List.forall_mem_cons.mpr ⟨gx_f58, List.forall_mem_cons.mpr ⟨gx_f59, List.forall_mem_cons.mpr ⟨gx_f60, List.forall_mem_cons.mpr ⟨gx_f61, List.forall_mem_cons.mpr ⟨gx_f62, List.forall_mem_cons.mpr ⟨gx_f63, List.forall_mem_cons.mpr ⟨gx_f64, List.forall_mem_cons.mpr ⟨gx_f65, List.forall_mem_cons.mpr ⟨gx_f66, List.forall_mem_cons.mpr ⟨gx_f67, List.forall_mem_cons.mpr ⟨gx_f68, List.forall_mem_cons.mpr ⟨gx_f69, List.forall_mem_cons.mpr ⟨gx_f70, List.forall_mem_cons.mpr ⟨gx_f71, List.forall_mem_cons.mpr ⟨gx_f72, List.forall_mem_cons.mpr ⟨gx_f73, List.forall_mem_cons.mpr ⟨gx_f74, List.forall_mem_cons.mpr ⟨gx_f75, List.forall_mem_cons.mpr ⟨gx_f76, List.forall_mem_cons.mpr ⟨gx_f77, List.forall_mem_cons.mpr ⟨gx_f78, List.forall_mem_cons.mpr ⟨gx_f79, List.forall_mem_cons.mpr ⟨gx_f80, List.forall_mem_cons.mpr ⟨gx_f81, List.forall_mem_cons.mpr ⟨gx_f82, List.forall_mem_cons.mpr ⟨gx_f83, List.forall_mem_cons.mpr ⟨gx_f84, List.forall_mem_cons.mpr ⟨gx_f85, List.forall_mem_cons.mpr ⟨gx_f86, fun _ h => absurd h List.not_mem_nil⟩⟩⟩⟩⟩⟩⟩⟩⟩⟩⟩⟩⟩⟩⟩⟩⟩⟩⟩⟩⟩⟩⟩⟩⟩⟩⟩⟩⟩⟩⟩⟩⟩⟩⟩⟩⟩⟩⟩⟩⟩⟩⟩⟩⟩⟩⟩⟩⟩⟩⟩⟩⟩⟩⟩⟩⟩⟩⟩⟩⟩⟩⟩⟩⟩⟩⟩⟩⟩⟩⟩⟩⟩⟩⟩⟩⟩⟩⟩⟩⟩⟩⟩⟩⟩⟩⟩
def gx_fl (a b : Nat) : Option (Nat × Nat) := gx_fT.lookup (a, b)
def gx_cT : List ((Nat × Nat) × Int32) := [((1, 89), 100000), ((2, 105), 100000), ((3, 64), 100000), ((4, 94), 1000000), ((4, 165), 100000)]
theorem gx_c0 : Cond.constant (gx_os 1) 89 100000 ∈ gx_TBL := gx_in2 69 rfl rfl
theorem gx_c1 : Cond.constant (gx_os 2) 105 100000 ∈ gx_TBL := gx_in2 187 rfl rfl
theorem gx_c2 : Cond.constant (gx_os 3) 64 100000 ∈ gx_TBL := gx_in1 205 rfl rfl
theorem gx_c3 : Cond.constant (gx_os 4) 94 1000000 ∈ gx_TBL := gx_in3 111 rfl rfl
theorem gx_c4 : Cond.constant (gx_os 4) 165 100000 ∈ gx_TBL := gx_in3 75 rfl rfl
theorem gx_cTok : ∀ q ∈ gx_cT, Cond.constant (gx_os q.1.1) q.1.2 q.2 ∈ gx_TBL := List.forall_mem_cons.mpr ⟨gx_c0, List.forall_mem_cons.mpr ⟨gx_c1, List.forall_mem_cons.mpr ⟨gx_c2, List.forall_mem_cons.mpr ⟨gx_c3, List.forall_mem_cons.mpr ⟨gx_c4, fun _ h => absurd h List.not_mem_nil⟩⟩⟩⟩⟩
def gx_cn (a b : Nat) : Option Int32 := gx_cT.lookup (a, b)
/-- owner and place in its pool; then the method, how many values it takes (its object among them), whether it has an object -/
def gx_mT : List ((Nat × Nat) × (Nat × Nat × Bool)) := [((1, 43), (104, 2, false)), ((1, 49), (10, 3, true)), ((1, 59), (15, 3, true)), ((1, 63), (103, 2, false)), ((1, 68), (17, 4, true)), ((1, 72), (18, 3, true)), ((1, 76), (19, 2, true)), ((1, 80), (20, 3, true)), ((1, 83), (21, 2, true)), ((1, 86), (22, 2, true)), ((2, 48), (7, 3, true)), ((2, 52), (6, 3, true)), ((2, 55), (101, 1, false)), ((2, 61), (25, 2, true)), ((2, 65), (26, 3, true)), ((2, 72), (104, 2, false)), ((2, 78), (28, 4, true)), ((2, 82), (29, 3, true)), ((2, 86), (30, 4, true)), ((2, 89), (27, 3, true)), ((2, 102), (103, 2, false)), ((3, 50), (52, 1, true)), ((3, 53), (2, 1, true)), ((3, 57), (0, 2, true)), ((3, 68), (49, 2, false)), ((3, 75), (3, 5, true)), ((3, 79), (1, 2, true)), ((3, 88), (4, 2, true)), ((3, 92), (5, 1, true)), ((3, 95), (53, 1, true)), ((3, 99), (48, 1, false)), ((3, 102), (54, 2, true)), ((3, 106), (6, 3, true)), ((3, 110), (7, 3, true)), ((3, 113), (102, 2, false)), ((3, 119), (58, 3, true)), ((3, 122), (57, 1, true)), ((3, 128), (15, 3, true)), ((3, 135), (59, 1, true)), ((3, 141), (60, 1, true)), ((3, 153), (23, 3, true)), ((3, 162), (55, 1, true)), ((3, 165), (14, 1, true)), ((3, 171), (11, 2, true)), ((3, 175), (12, 2, true)), ((3, 178), (16, 2, true)), ((3, 182), (13, 2, true)), ((3, 185), (8, 1, true)), ((3, 188), (50, 1, false)), ((3, 191), (51, 1, false)), ((3, 194), (9, 6, true)), ((3, 198), (56, 3, true)), ((3, 211), (24, 3, true)), ((4, 87), (61, 5, true)), ((4, 95), (62, 3, true)), ((4, 99), (63, 1, true)), ((4, 103), (64, 3, true)), ((4, 107), (65, 1, true)), ((4, 110), (66, 1, true)), ((4, 114), (67, 1, true)), ((4, 124), (68, 2, true)), ((4, 128), (76, 1, true)), ((4, 131), (69, 1, true)), ((4, 137), (72, 3, true)), ((4, 141), (71, 3, true)), ((4, 144), (77, 1, true)), ((4, 147), (78, 2, true)), ((4, 150), (73, 2, true)), ((4, 154), (74, 3, true)), ((4, 157), (75, 4, true)), ((4, 161), (79, 2, true)), ((4, 166), (81, 2, false)), ((4, 169), (80, 2, true)), ((4, 172), (70, 1, true)), ((4, 175), (90, 1, false)), ((4, 178), (94, 3, true))]
def gx_mok (q : (Nat × Nat) × (Nat × Nat × Bool)) : Prop := q.2.1 < 105 ∧ Cond.methodLink (gx_os q.1.1) q.1.2 (gx_y q.2.1) ∈ gx_TBL ∧ Cond.initialized (gx_y q.2.1).cls ∈ gx_TBL ∧ (gx_y q.2.1).cls ≠ "java/lang/invoke/MethodHandle" ∧ (gx_y q.2.1).cls ≠ "java/lang/invoke/VarHandle" ∧ (parseMethodDescriptor (gx_y q.2.1).desc).map (fun d => d.parameters.length) = some (if q.2.2.2 = true then q.2.2.1 - 1 else q.2.2.1) ∧ (if q.2.2.2 = true then 1 ≤ q.2.2.1 ∧ (gx_y q.2.1).cls = gx_os (gx_on q.2.1) ∧ gx_on q.2.1 < 5 ∧ Cond.instanceMethod (gx_y q.2.1) ∈ gx_TBL ∧ Cond.selects (gx_y q.2.1).cls (gx_y q.2.1) (gx_y q.2.1) ∈ gx_TBL else Cond.static (gx_y q.2.1) ∈ gx_TBL)
theorem gx_q0 : gx_mok ((1, 43), (104, 2, false)) := ⟨by decide, gx_in2 17 rfl rfl, gx_in1 6 rfl rfl, by decide, by decide, by decide +kernel, gx_in2 18 rfl rfl⟩
theorem gx_q1 : gx_mok ((1, 49), (10, 3, true)) := ⟨by decide, gx_in2 30 rfl rfl, gx_in1 3 rfl rfl, by decide, by decide, by decide +kernel, ⟨by decide, by decide, by decide, gx_in2 32 rfl rfl, gx_in0 3 rfl rfl⟩⟩
theorem gx_q2 : gx_mok ((1, 59), (15, 3, true)) := ⟨by decide, gx_in2 42 rfl rfl, gx_in1 3 rfl rfl, by decide, by decide, by decide +kernel, ⟨by decide, by decide, by decide, gx_in2 43 rfl rfl, gx_in2 44 rfl rfl⟩⟩
theorem gx_q3 : gx_mok ((1, 63), (103, 2, false)) := ⟨by decide, gx_in2 46 rfl rfl, gx_in1 7 rfl rfl, by decide, by decide, by decide +kernel, gx_in2 47 rfl rfl⟩
theorem gx_q4 : gx_mok ((1, 68), (17, 4, true)) := ⟨by decide, gx_in2 49 rfl rfl, gx_in1 3 rfl rfl, by decide, by decide, by decide +kernel, ⟨by decide, by decide, by decide, gx_in2 51 rfl rfl, gx_in0 5 rfl rfl⟩⟩
theorem gx_q5 : gx_mok ((1, 72), (18, 3, true)) := ⟨by decide, gx_in2 53 rfl rfl, gx_in1 3 rfl rfl, by decide, by decide, by decide +kernel, ⟨by decide, by decide, by decide, gx_in2 55 rfl rfl, gx_in0 6 rfl rfl⟩⟩
theorem gx_q6 : gx_mok ((1, 76), (19, 2, true)) := ⟨by decide, gx_in2 65 rfl rfl, gx_in1 3 rfl rfl, by decide, by decide, by decide +kernel, ⟨by decide, by decide, by decide, gx_in2 67 rfl rfl, gx_in0 9 rfl rfl⟩⟩
theorem gx_q7 : gx_mok ((1, 80), (20, 3, true)) := ⟨by decide, gx_in2 70 rfl rfl, gx_in1 3 rfl rfl, by decide, by decide, by decide +kernel, ⟨by decide, by decide, by decide, gx_in2 72 rfl rfl, gx_in0 10 rfl rfl⟩⟩
theorem gx_q8 : gx_mok ((1, 83), (21, 2, true)) := ⟨by decide, gx_in2 57 rfl rfl, gx_in1 3 rfl rfl, by decide, by decide, by decide +kernel, ⟨by decide, by decide, by decide, gx_in2 59 rfl rfl, gx_in0 7 rfl rfl⟩⟩
theorem gx_q9 : gx_mok ((1, 86), (22, 2, true)) := ⟨by decide, gx_in2 61 rfl rfl, gx_in1 3 rfl rfl, by decide, by decide, by decide +kernel, ⟨by decide, by decide, by decide, gx_in2 63 rfl rfl, gx_in0 8 rfl rfl⟩⟩
theorem gx_q10 : gx_mok ((2, 48), (7, 3, true)) := ⟨by decide, gx_in2 165 rfl rfl, gx_in1 2 rfl rfl, by decide, by decide, by decide +kernel, ⟨by decide, by decide, by decide, gx_in2 118 rfl rfl, gx_in2 119 rfl rfl⟩⟩
theorem gx_q11 : gx_mok ((2, 52), (6, 3, true)) := ⟨by decide, gx_in2 166 rfl rfl, gx_in1 2 rfl rfl, by decide, by decide, by decide +kernel, ⟨by decide, by decide, by decide, gx_in2 114 rfl rfl, gx_in2 115 rfl rfl⟩⟩
theorem gx_q12 : gx_mok ((2, 55), (101, 1, false)) := ⟨by decide, gx_in2 167 rfl rfl, gx_in1 7 rfl rfl, by decide, by decide, by decide +kernel, gx_in2 168 rfl rfl⟩
theorem gx_q13 : gx_mok ((2, 61), (25, 2, true)) := ⟨by decide, gx_in2 170 rfl rfl, gx_in1 4 rfl rfl, by decide, by decide, by decide +kernel, ⟨by decide, by decide, by decide, gx_in2 172 rfl rfl, gx_in0 16 rfl rfl⟩⟩
theorem gx_q14 : gx_mok ((2, 65), (26, 3, true)) := ⟨by decide, gx_in2 174 rfl rfl, gx_in1 4 rfl rfl, by decide, by decide, by decide +kernel, ⟨by decide, by decide, by decide, gx_in2 176 rfl rfl, gx_in0 17 rfl rfl⟩⟩
theorem gx_q15 : gx_mok ((2, 72), (104, 2, false)) := ⟨by decide, gx_in2 178 rfl rfl, gx_in1 6 rfl rfl, by decide, by decide, by decide +kernel, gx_in2 18 rfl rfl⟩
theorem gx_q16 : gx_mok ((2, 78), (28, 4, true)) := ⟨by decide, gx_in2 179 rfl rfl, gx_in1 4 rfl rfl, by decide, by decide, by decide +kernel, ⟨by decide, by decide, by decide, gx_in2 181 rfl rfl, gx_in0 18 rfl rfl⟩⟩
theorem gx_q17 : gx_mok ((2, 82), (29, 3, true)) := ⟨by decide, gx_in2 183 rfl rfl, gx_in1 4 rfl rfl, by decide, by decide, by decide +kernel, ⟨by decide, by decide, by decide, gx_in2 185 rfl rfl, gx_in0 19 rfl rfl⟩⟩
theorem gx_q18 : gx_mok ((2, 86), (30, 4, true)) := ⟨by decide, gx_in2 189 rfl rfl, gx_in1 4 rfl rfl, by decide, by decide, by decide +kernel, ⟨by decide, by decide, by decide, gx_in2 191 rfl rfl, gx_in0 20 rfl rfl⟩⟩
theorem gx_q19 : gx_mok ((2, 89), (27, 3, true)) := ⟨by decide, gx_in2 193 rfl rfl, gx_in1 4 rfl rfl, by decide, by decide, by decide +kernel, ⟨by decide, by decide, by decide, gx_in2 195 rfl rfl, gx_in0 21 rfl rfl⟩⟩
theorem gx_q20 : gx_mok ((2, 102), (103, 2, false)) := ⟨by decide, gx_in2 188 rfl rfl, gx_in1 7 rfl rfl, by decide, by decide, by decide +kernel, gx_in2 47 rfl rfl⟩
theorem gx_q21 : gx_mok ((3, 50), (52, 1, true)) := ⟨by decide, gx_in1 185 rfl rfl, gx_in1 1 rfl rfl, by decide, by decide, by decide +kernel, ⟨by decide, by decide, by decide, gx_in1 187 rfl rfl, gx_in0 0 rfl rfl⟩⟩
theorem gx_q22 : gx_mok ((3, 53), (2, 1, true)) := ⟨by decide, gx_in1 189 rfl rfl, gx_in1 2 rfl rfl, by decide, by decide, by decide +kernel, ⟨by decide, by decide, by decide, gx_in1 190 rfl rfl, gx_in1 191 rfl rfl⟩⟩
theorem gx_q23 : gx_mok ((3, 57), (0, 2, true)) := ⟨by decide, gx_in1 197 rfl rfl, gx_in1 2 rfl rfl, by decide, by decide, by decide +kernel, ⟨by decide, by decide, by decide, gx_in1 198 rfl rfl, gx_in1 199 rfl rfl⟩⟩
theorem gx_q24 : gx_mok ((3, 68), (49, 2, false)) := ⟨by decide, gx_in1 210 rfl rfl, gx_in1 1 rfl rfl, by decide, by decide, by decide +kernel, gx_in1 211 rfl rfl⟩
theorem gx_q25 : gx_mok ((3, 75), (3, 5, true)) := ⟨by decide, gx_in1 213 rfl rfl, gx_in1 2 rfl rfl, by decide, by decide, by decide +kernel, ⟨by decide, by decide, by decide, gx_in1 214 rfl rfl, gx_in1 215 rfl rfl⟩⟩
theorem gx_q26 : gx_mok ((3, 79), (1, 2, true)) := ⟨by decide, gx_in1 221 rfl rfl, gx_in1 2 rfl rfl, by decide, by decide, by decide +kernel, ⟨by decide, by decide, by decide, gx_in1 222 rfl rfl, gx_in1 223 rfl rfl⟩⟩
theorem gx_q27 : gx_mok ((3, 88), (4, 2, true)) := ⟨by decide, gx_in1 229 rfl rfl, gx_in1 2 rfl rfl, by decide, by decide, by decide +kernel, ⟨by decide, by decide, by decide, gx_in1 230 rfl rfl, gx_in1 231 rfl rfl⟩⟩
theorem gx_q28 : gx_mok ((3, 92), (5, 1, true)) := ⟨by decide, gx_in1 237 rfl rfl, gx_in1 2 rfl rfl, by decide, by decide, by decide +kernel, ⟨by decide, by decide, by decide, gx_in1 238 rfl rfl, gx_in1 239 rfl rfl⟩⟩
theorem gx_q29 : gx_mok ((3, 95), (53, 1, true)) := ⟨by decide, gx_in2 5 rfl rfl, gx_in1 1 rfl rfl, by decide, by decide, by decide +kernel, ⟨by decide, by decide, by decide, gx_in2 7 rfl rfl, gx_in0 1 rfl rfl⟩⟩
theorem gx_q30 : gx_mok ((3, 99), (48, 1, false)) := ⟨by decide, gx_in2 85 rfl rfl, gx_in1 1 rfl rfl, by decide, by decide, by decide +kernel, gx_in2 86 rfl rfl⟩
theorem gx_q31 : gx_mok ((3, 102), (54, 2, true)) := ⟨by decide, gx_in2 88 rfl rfl, gx_in1 1 rfl rfl, by decide, by decide, by decide +kernel, ⟨by decide, by decide, by decide, gx_in2 90 rfl rfl, gx_in0 11 rfl rfl⟩⟩
theorem gx_q32 : gx_mok ((3, 106), (6, 3, true)) := ⟨by decide, gx_in2 113 rfl rfl, gx_in1 2 rfl rfl, by decide, by decide, by decide +kernel, ⟨by decide, by decide, by decide, gx_in2 114 rfl rfl, gx_in2 115 rfl rfl⟩⟩
theorem gx_q33 : gx_mok ((3, 110), (7, 3, true)) := ⟨by decide, gx_in2 117 rfl rfl, gx_in1 2 rfl rfl, by decide, by decide, by decide +kernel, ⟨by decide, by decide, by decide, gx_in2 118 rfl rfl, gx_in2 119 rfl rfl⟩⟩
theorem gx_q34 : gx_mok ((3, 113), (102, 2, false)) := ⟨by decide, gx_in2 121 rfl rfl, gx_in1 7 rfl rfl, by decide, by decide, by decide +kernel, gx_in2 122 rfl rfl⟩
theorem gx_q35 : gx_mok ((3, 119), (58, 3, true)) := ⟨by decide, gx_in2 128 rfl rfl, gx_in1 1 rfl rfl, by decide, by decide, by decide +kernel, ⟨by decide, by decide, by decide, gx_in2 130 rfl rfl, gx_in0 12 rfl rfl⟩⟩
theorem gx_q36 : gx_mok ((3, 122), (57, 1, true)) := ⟨by decide, gx_in2 132 rfl rfl, gx_in1 1 rfl rfl, by decide, by decide, by decide +kernel, ⟨by decide, by decide, by decide, gx_in2 134 rfl rfl, gx_in0 13 rfl rfl⟩⟩
theorem gx_q37 : gx_mok ((3, 128), (15, 3, true)) := ⟨by decide, gx_in2 96 rfl rfl, gx_in1 3 rfl rfl, by decide, by decide, by decide +kernel, ⟨by decide, by decide, by decide, gx_in2 43 rfl rfl, gx_in2 44 rfl rfl⟩⟩
theorem gx_q38 : gx_mok ((3, 135), (59, 1, true)) := ⟨by decide, gx_in2 148 rfl rfl, gx_in1 1 rfl rfl, by decide, by decide, by decide +kernel, ⟨by decide, by decide, by decide, gx_in2 150 rfl rfl, gx_in0 14 rfl rfl⟩⟩
theorem gx_q39 : gx_mok ((3, 141), (60, 1, true)) := ⟨by decide, gx_in2 156 rfl rfl, gx_in1 1 rfl rfl, by decide, by decide, by decide +kernel, ⟨by decide, by decide, by decide, gx_in2 158 rfl rfl, gx_in0 15 rfl rfl⟩⟩
theorem gx_q40 : gx_mok ((3, 153), (23, 3, true)) := ⟨by decide, gx_in2 201 rfl rfl, gx_in1 4 rfl rfl, by decide, by decide, by decide +kernel, ⟨by decide, by decide, by decide, gx_in2 202 rfl rfl, gx_in2 203 rfl rfl⟩⟩
theorem gx_q41 : gx_mok ((3, 162), (55, 1, true)) := ⟨by decide, gx_in2 9 rfl rfl, gx_in1 1 rfl rfl, by decide, by decide, by decide +kernel, ⟨by decide, by decide, by decide, gx_in2 11 rfl rfl, gx_in0 2 rfl rfl⟩⟩
theorem gx_q42 : gx_mok ((3, 165), (14, 1, true)) := ⟨by decide, gx_in2 38 rfl rfl, gx_in1 3 rfl rfl, by decide, by decide, by decide +kernel, ⟨by decide, by decide, by decide, gx_in2 39 rfl rfl, gx_in2 40 rfl rfl⟩⟩
theorem gx_q43 : gx_mok ((3, 171), (11, 2, true)) := ⟨by decide, gx_in2 74 rfl rfl, gx_in1 3 rfl rfl, by decide, by decide, by decide +kernel, ⟨by decide, by decide, by decide, gx_in2 75 rfl rfl, gx_in2 76 rfl rfl⟩⟩
theorem gx_q44 : gx_mok ((3, 175), (12, 2, true)) := ⟨by decide, gx_in2 92 rfl rfl, gx_in1 3 rfl rfl, by decide, by decide, by decide +kernel, ⟨by decide, by decide, by decide, gx_in2 93 rfl rfl, gx_in2 94 rfl rfl⟩⟩
theorem gx_q45 : gx_mok ((3, 178), (16, 2, true)) := ⟨by decide, gx_in2 97 rfl rfl, gx_in1 3 rfl rfl, by decide, by decide, by decide +kernel, ⟨by decide, by decide, by decide, gx_in2 98 rfl rfl, gx_in2 99 rfl rfl⟩⟩
theorem gx_q46 : gx_mok ((3, 182), (13, 2, true)) := ⟨by decide, gx_in2 101 rfl rfl, gx_in1 3 rfl rfl, by decide, by decide, by decide +kernel, ⟨by decide, by decide, by decide, gx_in2 102 rfl rfl, gx_in2 103 rfl rfl⟩⟩
theorem gx_q47 : gx_mok ((3, 185), (8, 1, true)) := ⟨by decide, gx_in2 13 rfl rfl, gx_in1 3 rfl rfl, by decide, by decide, by decide +kernel, ⟨by decide, by decide, by decide, gx_in2 14 rfl rfl, gx_in2 15 rfl rfl⟩⟩
theorem gx_q48 : gx_mok ((3, 188), (50, 1, false)) := ⟨by decide, gx_in2 20 rfl rfl, gx_in1 1 rfl rfl, by decide, by decide, by decide +kernel, gx_in2 21 rfl rfl⟩
theorem gx_q49 : gx_mok ((3, 191), (51, 1, false)) := ⟨by decide, gx_in2 23 rfl rfl, gx_in1 1 rfl rfl, by decide, by decide, by decide +kernel, gx_in2 24 rfl rfl⟩
theorem gx_q50 : gx_mok ((3, 194), (9, 6, true)) := ⟨by decide, gx_in2 26 rfl rfl, gx_in1 3 rfl rfl, by decide, by decide, by decide +kernel, ⟨by decide, by decide, by decide, gx_in2 27 rfl rfl, gx_in2 28 rfl rfl⟩⟩
theorem gx_q51 : gx_mok ((3, 198), (56, 3, true)) := ⟨by decide, gx_in2 34 rfl rfl, gx_in1 1 rfl rfl, by decide, by decide, by decide +kernel, ⟨by decide, by decide, by decide, gx_in2 36 rfl rfl, gx_in0 4 rfl rfl⟩⟩
theorem gx_q52 : gx_mok ((3, 211), (24, 3, true)) := ⟨by decide, gx_in2 160 rfl rfl, gx_in1 4 rfl rfl, by decide, by decide, by decide +kernel, ⟨by decide, by decide, by decide, gx_in2 161 rfl rfl, gx_in2 162 rfl rfl⟩⟩
theorem gx_q53 : gx_mok ((4, 87), (61, 5, true)) := ⟨by decide, gx_in3 120 rfl rfl, gx_in1 5 rfl rfl, by decide, by decide, by decide +kernel, ⟨by decide, by decide, by decide, gx_in3 122 rfl rfl, gx_in0 28 rfl rfl⟩⟩
theorem gx_q54 : gx_mok ((4, 95), (62, 3, true)) := ⟨by decide, gx_in3 116 rfl rfl, gx_in1 5 rfl rfl, by decide, by decide, by decide +kernel, ⟨by decide, by decide, by decide, gx_in3 118 rfl rfl, gx_in0 27 rfl rfl⟩⟩
theorem gx_q55 : gx_mok ((4, 99), (63, 1, true)) := ⟨by decide, gx_in3 124 rfl rfl, gx_in1 5 rfl rfl, by decide, by decide, by decide +kernel, ⟨by decide, by decide, by decide, gx_in3 126 rfl rfl, gx_in0 29 rfl rfl⟩⟩
theorem gx_q56 : gx_mok ((4, 103), (64, 3, true)) := ⟨by decide, gx_in3 112 rfl rfl, gx_in1 5 rfl rfl, by decide, by decide, by decide +kernel, ⟨by decide, by decide, by decide, gx_in3 114 rfl rfl, gx_in0 26 rfl rfl⟩⟩
theorem gx_q57 : gx_mok ((4, 107), (65, 1, true)) := ⟨by decide, gx_in3 107 rfl rfl, gx_in1 5 rfl rfl, by decide, by decide, by decide +kernel, ⟨by decide, by decide, by decide, gx_in3 109 rfl rfl, gx_in0 25 rfl rfl⟩⟩
theorem gx_q58 : gx_mok ((4, 110), (66, 1, true)) := ⟨by decide, gx_in3 132 rfl rfl, gx_in1 5 rfl rfl, by decide, by decide, by decide +kernel, ⟨by decide, by decide, by decide, gx_in3 134 rfl rfl, gx_in0 31 rfl rfl⟩⟩
theorem gx_q59 : gx_mok ((4, 114), (67, 1, true)) := ⟨by decide, gx_in3 136 rfl rfl, gx_in1 5 rfl rfl, by decide, by decide, by decide +kernel, ⟨by decide, by decide, by decide, gx_in3 138 rfl rfl, gx_in0 32 rfl rfl⟩⟩
theorem gx_q60 : gx_mok ((4, 124), (68, 2, true)) := ⟨by decide, gx_in3 128 rfl rfl, gx_in1 5 rfl rfl, by decide, by decide, by decide +kernel, ⟨by decide, by decide, by decide, gx_in3 130 rfl rfl, gx_in0 30 rfl rfl⟩⟩
theorem gx_q61 : gx_mok ((4, 128), (76, 1, true)) := ⟨by decide, gx_in3 140 rfl rfl, gx_in1 5 rfl rfl, by decide, by decide, by decide +kernel, ⟨by decide, by decide, by decide, gx_in3 142 rfl rfl, gx_in0 33 rfl rfl⟩⟩
theorem gx_q62 : gx_mok ((4, 131), (69, 1, true)) := ⟨by decide, gx_in3 172 rfl rfl, gx_in1 5 rfl rfl, by decide, by decide, by decide +kernel, ⟨by decide, by decide, by decide, gx_in3 174 rfl rfl, gx_in0 41 rfl rfl⟩⟩
theorem gx_q63 : gx_mok ((4, 137), (72, 3, true)) := ⟨by decide, gx_in3 144 rfl rfl, gx_in1 5 rfl rfl, by decide, by decide, by decide +kernel, ⟨by decide, by decide, by decide, gx_in3 146 rfl rfl, gx_in0 34 rfl rfl⟩⟩
theorem gx_q64 : gx_mok ((4, 141), (71, 3, true)) := ⟨by decide, gx_in3 148 rfl rfl, gx_in1 5 rfl rfl, by decide, by decide, by decide +kernel, ⟨by decide, by decide, by decide, gx_in3 150 rfl rfl, gx_in0 35 rfl rfl⟩⟩
theorem gx_q65 : gx_mok ((4, 144), (77, 1, true)) := ⟨by decide, gx_in3 152 rfl rfl, gx_in1 5 rfl rfl, by decide, by decide, by decide +kernel, ⟨by decide, by decide, by decide, gx_in3 154 rfl rfl, gx_in0 36 rfl rfl⟩⟩
theorem gx_q66 : gx_mok ((4, 147), (78, 2, true)) := ⟨by decide, gx_in3 156 rfl rfl, gx_in1 5 rfl rfl, by decide, by decide, by decide +kernel, ⟨by decide, by decide, by decide, gx_in3 158 rfl rfl, gx_in0 37 rfl rfl⟩⟩
theorem gx_q67 : gx_mok ((4, 150), (73, 2, true)) := ⟨by decide, gx_in3 160 rfl rfl, gx_in1 5 rfl rfl, by decide, by decide, by decide +kernel, ⟨by decide, by decide, by decide, gx_in3 162 rfl rfl, gx_in0 38 rfl rfl⟩⟩
theorem gx_q68 : gx_mok ((4, 154), (74, 3, true)) := ⟨by decide, gx_in3 164 rfl rfl, gx_in1 5 rfl rfl, by decide, by decide, by decide +kernel, ⟨by decide, by decide, by decide, gx_in3 166 rfl rfl, gx_in0 39 rfl rfl⟩⟩
theorem gx_q69 : gx_mok ((4, 157), (75, 4, true)) := ⟨by decide, gx_in3 168 rfl rfl, gx_in1 5 rfl rfl, by decide, by decide, by decide +kernel, ⟨by decide, by decide, by decide, gx_in3 170 rfl rfl, gx_in0 40 rfl rfl⟩⟩
theorem gx_q70 : gx_mok ((4, 161), (79, 2, true)) := ⟨by decide, gx_in3 67 rfl rfl, gx_in1 5 rfl rfl, by decide, by decide, by decide +kernel, ⟨by decide, by decide, by decide, gx_in3 69 rfl rfl, gx_in0 22 rfl rfl⟩⟩
theorem gx_q71 : gx_mok ((4, 166), (81, 2, false)) := ⟨by decide, gx_in3 80 rfl rfl, gx_in1 5 rfl rfl, by decide, by decide, by decide +kernel, gx_in3 81 rfl rfl⟩
theorem gx_q72 : gx_mok ((4, 169), (80, 2, true)) := ⟨by decide, gx_in3 87 rfl rfl, gx_in1 5 rfl rfl, by decide, by decide, by decide +kernel, ⟨by decide, by decide, by decide, gx_in3 89 rfl rfl, gx_in0 23 rfl rfl⟩⟩
theorem gx_q73 : gx_mok ((4, 172), (70, 1, true)) := ⟨by decide, gx_in3 103 rfl rfl, gx_in1 5 rfl rfl, by decide, by decide, by decide +kernel, ⟨by decide, by decide, by decide, gx_in3 105 rfl rfl, gx_in0 24 rfl rfl⟩⟩
theorem gx_q74 : gx_mok ((4, 175), (90, 1, false)) := ⟨by decide, gx_in3 180 rfl rfl, gx_in1 5 rfl rfl, by decide, by decide, by decide +kernel, gx_in3 181 rfl rfl⟩
theorem gx_q75 : gx_mok ((4, 178), (94, 3, true)) := ⟨by decide, gx_in3 195 rfl rfl, gx_in1 5 rfl rfl, by decide, by decide, by decide +kernel, ⟨by decide, by decide, by decide, gx_in3 197 rfl rfl, gx_in0 42 rfl rfl⟩⟩
set_option maxRecDepth 20000 in
theorem gx_mTok : ∀ q ∈ gx_mT, gx_mok q := List.forall_mem_cons.mpr ⟨gx_q0, List.forall_mem_cons.mpr ⟨gx_q1, List.forall_mem_cons.mpr ⟨gx_q2, List.forall_mem_cons.mpr ⟨gx_q3, List.forall_mem_cons.mpr ⟨gx_q4, List.forall_mem_cons.mpr ⟨gx_q5, List.forall_mem_cons.mpr ⟨gx_q6, List.forall_mem_cons.mpr ⟨gx_q7, List.forall_mem_cons.mpr ⟨gx_q8, List.forall_mem_cons.mpr ⟨gx_q9, List.forall_mem_cons.mpr ⟨gx_q10, List.forall_mem_cons.mpr ⟨gx_q11, List.forall_mem_cons.mpr ⟨gx_q12, List.forall_mem_cons.mpr ⟨gx_q13, List.forall_mem_cons.mpr ⟨gx_q14, List.forall_mem_cons.mpr ⟨gx_q15, List.forall_mem_cons.mpr ⟨gx_q16, List.forall_mem_cons.mpr ⟨gx_q17, List.forall_mem_cons.mpr ⟨gx_q18, List.forall_mem_cons.mpr ⟨gx_q19, List.forall_mem_cons.mpr ⟨gx_q20, List.forall_mem_cons.mpr ⟨gx_q21, List.forall_mem_cons.mpr ⟨gx_q22, List.forall_mem_cons.mpr ⟨gx_q23, List.forall_mem_cons.mpr ⟨gx_q24, List.forall_mem_cons.mpr ⟨gx_q25, List.forall_mem_cons.mpr ⟨gx_q26, List.forall_mem_cons.mpr ⟨gx_q27, List.forall_mem_cons.mpr ⟨gx_q28, List.forall_mem_cons.mpr ⟨gx_q29, List.forall_mem_cons.mpr ⟨gx_q30, List.forall_mem_cons.mpr ⟨gx_q31, List.forall_mem_cons.mpr ⟨gx_q32, List.forall_mem_cons.mpr ⟨gx_q33, List.forall_mem_cons.mpr ⟨gx_q34, List.forall_mem_cons.mpr ⟨gx_q35, List.forall_mem_cons.mpr ⟨gx_q36, List.forall_mem_cons.mpr ⟨gx_q37, List.forall_mem_cons.mpr ⟨gx_q38, List.forall_mem_cons.mpr ⟨gx_q39, List.forall_mem_cons.mpr ⟨gx_q40, List.forall_mem_cons.mpr ⟨gx_q41, List.forall_mem_cons.mpr ⟨gx_q42, List.forall_mem_cons.mpr ⟨gx_q43, List.forall_mem_cons.mpr ⟨gx_q44, List.forall_mem_cons.mpr ⟨gx_q45, List.forall_mem_cons.mpr ⟨gx_q46, List.forall_mem_cons.mpr ⟨gx_q47, List.forall_mem_cons.mpr ⟨gx_q48, List.forall_mem_cons.mpr ⟨gx_q49, List.forall_mem_cons.mpr ⟨gx_q50, List.forall_mem_cons.mpr ⟨gx_q51, List.forall_mem_cons.mpr ⟨gx_q52, List.forall_mem_cons.mpr ⟨gx_q53, List.forall_mem_cons.mpr ⟨gx_q54, List.forall_mem_cons.mpr ⟨gx_q55, List.forall_mem_cons.mpr ⟨gx_q56, List.forall_mem_cons.mpr ⟨gx_q57, List.forall_mem_cons.mpr ⟨gx_q58, List.forall_mem_cons.mpr ⟨gx_q59, List.forall_mem_cons.mpr ⟨gx_q60, List.forall_mem_cons.mpr ⟨gx_q61, List.forall_mem_cons.mpr ⟨gx_q62, List.forall_mem_cons.mpr ⟨gx_q63, List.forall_mem_cons.mpr ⟨gx_q64, List.forall_mem_cons.mpr ⟨gx_q65, List.forall_mem_cons.mpr ⟨gx_q66, List.forall_mem_cons.mpr ⟨gx_q67, List.forall_mem_cons.mpr ⟨gx_q68, List.forall_mem_cons.mpr ⟨gx_q69, List.forall_mem_cons.mpr ⟨gx_q70, List.forall_mem_cons.mpr ⟨gx_q71, List.forall_mem_cons.mpr ⟨gx_q72, List.forall_mem_cons.mpr ⟨gx_q73, List.forall_mem_cons.mpr ⟨gx_q74, List.forall_mem_cons.mpr ⟨gx_q75, fun _ h => absurd h List.not_mem_nil⟩⟩⟩⟩⟩⟩⟩⟩⟩⟩⟩⟩⟩⟩⟩⟩⟩⟩⟩⟩⟩⟩⟩⟩⟩⟩⟩⟩⟩⟩⟩⟩⟩⟩⟩⟩⟩⟩⟩⟩⟩⟩⟩⟩⟩⟩⟩⟩⟩⟩⟩⟩⟩⟩⟩⟩⟩⟩⟩⟩⟩⟩⟩⟩⟩⟩⟩⟩⟩⟩⟩⟩⟩⟩⟩⟩
def gx_ml (a b : Nat) : Option (Nat × Nat × Bool) := gx_mT.lookup (a, b)
/-- System.arraycopy -/
def gx_aT : List ((Nat × Nat) × Unit) := [((1, 53), ()), ((2, 37), ())]
theorem gx_a0 : Cond.methodLink (gx_os 1) 53 arraycopyName ∈ gx_TBL := gx_in2 78 rfl rfl
theorem gx_a1 : Cond.methodLink (gx_os 2) 37 arraycopyName ∈ gx_TBL := gx_in2 164 rfl rfl
theorem gx_aTok : ∀ q ∈ gx_aT, Cond.methodLink (gx_os q.1.1) q.1.2 arraycopyName ∈ gx_TBL := List.forall_mem_cons.mpr ⟨gx_a0, List.forall_mem_cons.mpr ⟨gx_a1, fun _ h => absurd h List.not_mem_nil⟩⟩
theorem gx_anat : Cond.native arraycopyName ∈ gx_TBL := gx_in2 80 rfl rfl
theorem gx_asta : Cond.static arraycopyName ∈ gx_TBL := gx_in2 79 rfl rfl
theorem gx_aini : Cond.initialized "java/lang/System" ∈ gx_TBL := gx_in1 8 rfl rfl
/-- the places: an array of a kind and a length; an object of a kind, its fields (none: a number; some q: the place q); a row of places -/
abbrev gx_L : Type := (FieldType × Nat) ⊕ (Nat × List (Option Nat)) ⊕ List Nat
def gx_Ly : List gx_L := [
  .inr (.inl (3, [some 1, some 2, some 3, some 28, some 29, some 32, some 33, none, none, none, none, none])) /- 0 O:GreatestFlow -/,
  .inr (.inl (0, [some 4, some 5, some 6, some 7, some 8, some 9, some 10, none, none, none])) /- 1 O:GreatestFlow$Graph -/,
  .inr (.inl (1, [some 11, some 12, some 13, some 14, some 15, some 16, some 17, some 18, some 19, some 20])) /- 2 O:GreatestFlow$Net -/,
  .inr (.inl (2, [some 21, some 22, none, some 23, some 24, some 25, some 26, some 27])) /- 3 O:GreatestFlow$Parts -/,
  .inl (.int, 10) /- 4 GreatestFlow$Graph.kinds -/,
  .inl (.int, 10) /- 5 GreatestFlow$Graph.bounds -/,
  .inl (.int, 40) /- 6 GreatestFlow$Graph.froms -/,
  .inl (.int, 40) /- 7 GreatestFlow$Graph.tos -/,
  .inl (.int, 40) /- 8 GreatestFlow$Graph.leasts -/,
  .inl (.int, 40) /- 9 GreatestFlow$Graph.mosts -/,
  .inl (.boolean, 40) /- 10 GreatestFlow$Graph.dropped -/,
  .inl (.int, 61) /- 11 GreatestFlow$Net.low -/,
  .inl (.int, 61) /- 12 GreatestFlow$Net.high -/,
  .inl (.int, 61) /- 13 GreatestFlow$Net.from -/,
  .inl (.int, 61) /- 14 GreatestFlow$Net.to -/,
  .inl (.int, 61) /- 15 GreatestFlow$Net.flow -/,
  .inl (.boolean, 61) /- 16 GreatestFlow$Net.held -/,
  .inl (.int, 924) /- 17 GreatestFlow$Net.halves -/,
  .inl (.int, 22) /- 18 GreatestFlow$Net.halfCount -/,
  .inl (.int, 22) /- 19 GreatestFlow$Net.reachedBy -/,
  .inl (.int, 22) /- 20 GreatestFlow$Net.queue -/,
  .inl (.int, 50) /- 21 GreatestFlow$Parts.amounts -/,
  .inl (.int, 50) /- 22 GreatestFlow$Parts.lengths -/,
  .inl (.int, 500) /- 23 GreatestFlow$Parts.streamArcs -/,
  .inl (.int, 40) /- 24 GreatestFlow$Parts.left -/,
  .inl (.int, 10) /- 25 GreatestFlow$Parts.due -/,
  .inl (.int, 10) /- 26 GreatestFlow$Parts.placeOf -/,
  .inl (.int, 10) /- 27 GreatestFlow$Parts.path -/,
  .inl (.int, 61) /- 28 GreatestFlow.someFlow -/,
  .inr (.inr [30, 31]) /- 29 GreatestFlow.firstFlow -/,
  .inl (.int, 61) /- 30 row0 -/,
  .inl (.int, 61) /- 31 row1 -/,
  .inl (.boolean, 2) /- 32 GreatestFlow.firstKnown -/,
  .inl (.int, 40) /- 33 GreatestFlow.barredDown -/,
  .inr (.inl (4, [none, some 35, some 36, none, some 37, some 38, some 39, some 40, some 41, none, some 42, some 43, some 44, some 45, some 46, some 47, none, none, some 48, some 49, some 50, none, some 51, some 52, some 53, some 54, some 55, some 56, some 57])) /- 34 O:GreatestFlowModel -/,
  .inl (.int, 10) /- 35 GreatestFlowModel.kinds -/,
  .inl (.int, 10) /- 36 GreatestFlowModel.bounds -/,
  .inl (.int, 40) /- 37 GreatestFlowModel.from -/,
  .inl (.int, 40) /- 38 GreatestFlowModel.to -/,
  .inl (.int, 40) /- 39 GreatestFlowModel.least -/,
  .inl (.int, 40) /- 40 GreatestFlowModel.most -/,
  .inl (.boolean, 40) /- 41 GreatestFlowModel.alive -/,
  .inl (.int, 40) /- 42 GreatestFlowModel.low -/,
  .inl (.int, 40) /- 43 GreatestFlowModel.high -/,
  .inl (.int, 10) /- 44 GreatestFlowModel.kind -/,
  .inl (.int, 576) /- 45 GreatestFlowModel.left -/,
  .inl (.int, 24) /- 46 GreatestFlowModel.before -/,
  .inl (.int, 24) /- 47 GreatestFlowModel.queue -/,
  .inl (.int, 2) /- 48 GreatestFlowModel.values -/,
  .inl (.int, 80) /- 49 GreatestFlowModel.flows -/,
  .inl (.boolean, 40) /- 50 GreatestFlowModel.isBarred -/,
  .inl (.int, 80) /- 51 GreatestFlowModel.streamSize -/,
  .inl (.int, 80) /- 52 GreatestFlowModel.streamArcs -/,
  .inl (.int, 800) /- 53 GreatestFlowModel.streamArc -/,
  .inl (.int, 40) /- 54 GreatestFlowModel.over -/,
  .inl (.int, 10) /- 55 GreatestFlowModel.give -/,
  .inl (.int, 12) /- 56 GreatestFlowModel.path -/,
  .inl (.int, 10) /- 57 GreatestFlowModel.placeOf -/]
def gx_at (p : Nat) : Option gx_L := gx_Ly[p]?
end
section
/-! Instructions, printed by wip/gen.py: a loop's head is marked; the last number is where a jump leads. -/
def gx_len (i : Instr) : Nat := match i with
  | .iload _ | .istore _ | .aload _ | .astore _ | .bipush _ | .ldc _ => 2
  | .sipush _ | .getfield _ | .putfield _ | .invokevirtual _ | .invokestatic _ | .goto _ | .if_icmp _ _ | .ifCond _ _ | .iinc _ _ => 3
  | _ => 1
def gx_jok (pc : Nat) (i : Instr) (t : Nat) : Bool := match i with
  | .goto d | .if_icmp _ d | .ifCond _ d => decide ((pc : Int) + d = (t : Int))
  | _ => true
/-- the room of a call fits -/
def gx_rok (μ : Nat) (i : Instr) : Bool := match i with
  | .invokevirtual x | .invokestatic x => match gx_ml (gx_on μ) x with
    | some (k, n, _) => decide (n ≤ gx_mL k ∧ (gx_rm k).frames + 1 ≤ (gx_rm μ).frames ∧ 8 + (gx_mL k + 11) + (gx_rm k).locals ≤ (gx_rm μ).locals)
    | none => decide (1 ≤ (gx_rm μ).frames ∧ 26 ≤ (gx_rm μ).locals)
  | _ => true
/-- GreatestFlow$Graph.hasNode(I)Z -/
def gx_t0 : List (Nat × Bool × Instr × Nat) := [(0, false, .iload_n 1, 0), (1, false, .ifCond .lt 15, 16), (4, false, .iload_n 1, 0), (5, false, .aload_n 0, 0), (6, false, .getfield 34, 0), (9, false, .if_icmp .ge 7, 16), (12, false, .iconst 1, 0), (13, false, .goto 4, 17), (16, false, .iconst 0, 0), (17, false, .ireturn, 0)]
set_option maxRecDepth 20000 in
theorem gx_d0 : ∀ q ∈ gx_t0, decode (gx_code 0) q.1 = .ok (q.2.2.1, gx_len q.2.2.1) ∧ gx_jok q.1 q.2.2.1 q.2.2.2 = true ∧ gx_rok 0 q.2.2.1 = true := by decide +kernel
/-- GreatestFlow$Graph.hasArc(I)Z -/
def gx_t1 : List (Nat × Bool × Instr × Nat) := [(0, false, .iload_n 1, 0), (1, false, .ifCond .lt 24, 25), (4, false, .iload_n 1, 0), (5, false, .aload_n 0, 0), (6, false, .getfield 38, 0), (9, false, .if_icmp .ge 16, 25), (12, false, .aload_n 0, 0), (13, false, .getfield 30, 0), (16, false, .iload_n 1, 0), (17, false, .baload, 0), (18, false, .ifCond .ne 7, 25), (21, false, .iconst 1, 0), (22, false, .goto 4, 26), (25, false, .iconst 0, 0), (26, false, .ireturn, 0)]
set_option maxRecDepth 20000 in
theorem gx_d1 : ∀ q ∈ gx_t1, decode (gx_code 1) q.1 = .ok (q.2.2.1, gx_len q.2.2.1) ∧ gx_jok q.1 q.2.2.1 q.2.2.2 = true ∧ gx_rok 1 q.2.2.1 = true := by decide +kernel
/-- GreatestFlow$Graph.addNode()I -/
def gx_t2 : List (Nat × Bool × Instr × Nat) := [(0, false, .aload_n 0, 0), (1, false, .getfield 9, 0), (4, false, .aload_n 0, 0), (5, false, .getfield 34, 0), (8, false, .iconst 0, 0), (9, false, .iastore, 0), (10, false, .aload_n 0, 0), (11, false, .getfield 15, 0), (14, false, .aload_n 0, 0), (15, false, .getfield 34, 0), (18, false, .iconst (-1), 0), (19, false, .iastore, 0), (20, false, .aload_n 0, 0), (21, false, .dup, 0), (22, false, .getfield 34, 0), (25, false, .iconst 1, 0), (26, false, .iadd, 0), (27, false, .putfield 34, 0), (30, false, .aload_n 0, 0), (31, false, .getfield 34, 0), (34, false, .iconst 1, 0), (35, false, .isub, 0), (36, false, .ireturn, 0)]
set_option maxRecDepth 20000 in
theorem gx_d2 : ∀ q ∈ gx_t2, decode (gx_code 2) q.1 = .ok (q.2.2.1, gx_len q.2.2.1) ∧ gx_jok q.1 q.2.2.1 q.2.2.2 = true ∧ gx_rok 2 q.2.2.1 = true := by decide +kernel
/-- GreatestFlow$Graph.addArc(IIII)I -/
def gx_t3 : List (Nat × Bool × Instr × Nat) := [(0, false, .aload_n 0, 0), (1, false, .getfield 18, 0), (4, false, .aload_n 0, 0), (5, false, .getfield 38, 0), (8, false, .iload_n 1, 0), (9, false, .iastore, 0), (10, false, .aload_n 0, 0), (11, false, .getfield 21, 0), (14, false, .aload_n 0, 0), (15, false, .getfield 38, 0), (18, false, .iload_n 2, 0), (19, false, .iastore, 0), (20, false, .aload_n 0, 0), (21, false, .getfield 24, 0), (24, false, .aload_n 0, 0), (25, false, .getfield 38, 0), (28, false, .iload_n 3, 0), (29, false, .iastore, 0), (30, false, .aload_n 0, 0), (31, false, .getfield 27, 0), (34, false, .aload_n 0, 0), (35, false, .getfield 38, 0), (38, false, .iload 4, 0), (40, false, .iastore, 0), (41, false, .aload_n 0, 0), (42, false, .getfield 30, 0), (45, false, .aload_n 0, 0), (46, false, .getfield 38, 0), (49, false, .iconst 0, 0), (50, false, .bastore, 0), (51, false, .aload_n 0, 0), (52, false, .dup, 0), (53, false, .getfield 38, 0), (56, false, .iconst 1, 0), (57, false, .iadd, 0), (58, false, .putfield 38, 0), (61, false, .aload_n 0, 0), (62, false, .dup, 0), (63, false, .getfield 41, 0), (66, false, .iconst 1, 0), (67, false, .iadd, 0), (68, false, .putfield 41, 0), (71, false, .aload_n 0, 0), (72, false, .getfield 38, 0), (75, false, .iconst 1, 0), (76, false, .isub, 0), (77, false, .ireturn, 0)]
set_option maxRecDepth 20000 in
theorem gx_d3 : ∀ q ∈ gx_t3, decode (gx_code 3) q.1 = .ok (q.2.2.1, gx_len q.2.2.1) ∧ gx_jok q.1 q.2.2.1 q.2.2.2 = true ∧ gx_rok 3 q.2.2.1 = true := by decide +kernel
/-- GreatestFlow$Graph.removeArc(I)I -/
def gx_t4 : List (Nat × Bool × Instr × Nat) := [(0, false, .aload_n 0, 0), (1, false, .getfield 30, 0), (4, false, .iload_n 1, 0), (5, false, .iconst 1, 0), (6, false, .bastore, 0), (7, false, .aload_n 0, 0), (8, false, .dup, 0), (9, false, .getfield 41, 0), (12, false, .iconst 1, 0), (13, false, .isub, 0), (14, false, .putfield 41, 0), (17, false, .aload_n 0, 0), (18, false, .getfield 41, 0), (21, false, .ireturn, 0)]
set_option maxRecDepth 20000 in
theorem gx_d4 : ∀ q ∈ gx_t4, decode (gx_code 4) q.1 = .ok (q.2.2.1, gx_len q.2.2.1) ∧ gx_jok q.1 q.2.2.1 q.2.2.2 = true ∧ gx_rok 4 q.2.2.1 = true := by decide +kernel
/-- GreatestFlow$Graph.removeAll()I -/
def gx_t5 : List (Nat × Bool × Instr × Nat) := [(0, false, .aload_n 0, 0), (1, false, .getfield 34, 0), (4, false, .istore_n 1, 0), (5, false, .aload_n 0, 0), (6, false, .iconst 0, 0), (7, false, .putfield 34, 0), (10, false, .aload_n 0, 0), (11, false, .iconst 0, 0), (12, false, .putfield 38, 0), (15, false, .aload_n 0, 0), (16, false, .iconst 0, 0), (17, false, .putfield 41, 0), (20, false, .iload_n 1, 0), (21, false, .ireturn, 0)]
set_option maxRecDepth 20000 in
theorem gx_d5 : ∀ q ∈ gx_t5, decode (gx_code 5) q.1 = .ok (q.2.2.1, gx_len q.2.2.1) ∧ gx_jok q.1 q.2.2.1 q.2.2.2 = true ∧ gx_rok 5 q.2.2.1 = true := by decide +kernel
/-- GreatestFlow$Graph.comes([II)I -/
def gx_t6 : List (Nat × Bool × Instr × Nat) := [(0, false, .iconst 0, 0), (1, false, .istore_n 3, 0), (2, false, .iconst 0, 0), (3, false, .istore 4, 0), (5, true, .iload 4, 0), (7, false, .aload_n 0, 0), (8, false, .getfield 38, 0), (11, false, .if_icmp .ge 37, 48), (14, false, .aload_n 0, 0), (15, false, .getfield 21, 0), (18, false, .iload 4, 0), (20, false, .iaload, 0), (21, false, .iload_n 2, 0), (22, false, .if_icmp .ne 20, 42), (25, false, .aload_n 0, 0), (26, false, .getfield 30, 0), (29, false, .iload 4, 0), (31, false, .baload, 0), (32, false, .ifCond .ne 10, 42), (35, false, .iload_n 3, 0), (36, false, .aload_n 1, 0), (37, false, .iload 4, 0), (39, false, .iaload, 0), (40, false, .iadd, 0), (41, false, .istore_n 3, 0), (42, false, .iinc 4 1, 0), (45, false, .goto (-40), 5), (48, false, .iload_n 3, 0), (49, false, .ireturn, 0)]
set_option maxRecDepth 20000 in
theorem gx_d6 : ∀ q ∈ gx_t6, decode (gx_code 6) q.1 = .ok (q.2.2.1, gx_len q.2.2.1) ∧ gx_jok q.1 q.2.2.1 q.2.2.2 = true ∧ gx_rok 6 q.2.2.1 = true := by decide +kernel
/-- GreatestFlow$Graph.goes([II)I -/
def gx_t7 : List (Nat × Bool × Instr × Nat) := [(0, false, .iconst 0, 0), (1, false, .istore_n 3, 0), (2, false, .iconst 0, 0), (3, false, .istore 4, 0), (5, true, .iload 4, 0), (7, false, .aload_n 0, 0), (8, false, .getfield 38, 0), (11, false, .if_icmp .ge 37, 48), (14, false, .aload_n 0, 0), (15, false, .getfield 18, 0), (18, false, .iload 4, 0), (20, false, .iaload, 0), (21, false, .iload_n 2, 0), (22, false, .if_icmp .ne 20, 42), (25, false, .aload_n 0, 0), (26, false, .getfield 30, 0), (29, false, .iload 4, 0), (31, false, .baload, 0), (32, false, .ifCond .ne 10, 42), (35, false, .iload_n 3, 0), (36, false, .aload_n 1, 0), (37, false, .iload 4, 0), (39, false, .iaload, 0), (40, false, .iadd, 0), (41, false, .istore_n 3, 0), (42, false, .iinc 4 1, 0), (45, false, .goto (-40), 5), (48, false, .iload_n 3, 0), (49, false, .ireturn, 0)]
set_option maxRecDepth 20000 in
theorem gx_d7 : ∀ q ∈ gx_t7, decode (gx_code 7) q.1 = .ok (q.2.2.1, gx_len q.2.2.1) ∧ gx_jok q.1 q.2.2.1 q.2.2.2 = true ∧ gx_rok 7 q.2.2.1 = true := by decide +kernel
/-- GreatestFlow$Net.empty()V -/
def gx_t8 : List (Nat × Bool × Instr × Nat) := [(0, false, .aload_n 0, 0), (1, false, .getfield 9, 0), (4, false, .iconst 0, 0), (5, false, .invokestatic 43, 0), (8, false, .aload_n 0, 0), (9, false, .getfield 15, 0), (12, false, .iconst 0, 0), (13, false, .invokestatic 43, 0), (16, false, .aload_n 0, 0), (17, false, .getfield 24, 0), (20, false, .iconst 0, 0), (21, false, .invokestatic 43, 0), (24, false, .aload_n 0, 0), (25, false, .getfield 34, 0), (28, false, .iconst 0, 0), (29, false, .invokestatic 43, 0), (32, false, .iconst 0, 0), (33, false, .istore_n 1, 0), (34, true, .iload_n 1, 0), (35, false, .bipush 61, 0), (37, false, .if_icmp .ge 16, 53), (40, false, .aload_n 0, 0), (41, false, .getfield 27, 0), (44, false, .iload_n 1, 0), (45, false, .iconst 0, 0), (46, false, .bastore, 0), (47, false, .iinc 1 1, 0), (50, false, .goto (-16), 34), (53, false, .return_, 0)]
set_option maxRecDepth 20000 in
theorem gx_d8 : ∀ q ∈ gx_t8, decode (gx_code 8) q.1 = .ok (q.2.2.1, gx_len q.2.2.1) ∧ gx_jok q.1 q.2.2.1 q.2.2.2 = true ∧ gx_rok 8 q.2.2.1 = true := by decide +kernel
/-- GreatestFlow$Net.put(IIIII)V -/
def gx_t9 : List (Nat × Bool × Instr × Nat) := [(0, false, .aload_n 0, 0), (1, false, .getfield 18, 0), (4, false, .iload_n 1, 0), (5, false, .iload_n 2, 0), (6, false, .iastore, 0), (7, false, .aload_n 0, 0), (8, false, .getfield 21, 0), (11, false, .iload_n 1, 0), (12, false, .iload_n 3, 0), (13, false, .iastore, 0), (14, false, .aload_n 0, 0), (15, false, .getfield 9, 0), (18, false, .iload_n 1, 0), (19, false, .iload 4, 0), (21, false, .iastore, 0), (22, false, .aload_n 0, 0), (23, false, .getfield 15, 0), (26, false, .iload_n 1, 0), (27, false, .iload 5, 0), (29, false, .iastore, 0), (30, false, .aload_n 0, 0), (31, false, .iload_n 2, 0), (32, false, .iconst 2, 0), (33, false, .iload_n 1, 0), (34, false, .imul, 0), (35, false, .invokevirtual 49, 0), (38, false, .aload_n 0, 0), (39, false, .iload_n 3, 0), (40, false, .iconst 2, 0), (41, false, .iload_n 1, 0), (42, false, .imul, 0), (43, false, .iconst 1, 0), (44, false, .iadd, 0), (45, false, .invokevirtual 49, 0), (48, false, .return_, 0)]
set_option maxRecDepth 20000 in
theorem gx_d9 : ∀ q ∈ gx_t9, decode (gx_code 9) q.1 = .ok (q.2.2.1, gx_len q.2.2.1) ∧ gx_jok q.1 q.2.2.1 q.2.2.2 = true ∧ gx_rok 9 q.2.2.1 = true := by decide +kernel
/-- GreatestFlow$Net.addHalf(II)V -/
def gx_t10 : List (Nat × Bool × Instr × Nat) := [(0, false, .aload_n 0, 0), (1, false, .getfield 34, 0), (4, false, .iload_n 1, 0), (5, false, .iaload, 0), (6, false, .istore_n 3, 0), (7, false, .iload_n 3, 0), (8, false, .bipush 42, 0), (10, false, .if_icmp .ge 24, 34), (13, false, .aload_n 0, 0), (14, false, .getfield 31, 0), (17, false, .iload_n 1, 0), (18, false, .bipush 42, 0), (20, false, .imul, 0), (21, false, .iload_n 3, 0), (22, false, .iadd, 0), (23, false, .iload_n 2, 0), (24, false, .iastore, 0), (25, false, .aload_n 0, 0), (26, false, .getfield 34, 0), (29, false, .iload_n 1, 0), (30, false, .iload_n 3, 0), (31, false, .iconst 1, 0), (32, false, .iadd, 0), (33, false, .iastore, 0), (34, false, .return_, 0)]
set_option maxRecDepth 20000 in
theorem gx_d10 : ∀ q ∈ gx_t10, decode (gx_code 10) q.1 = .ok (q.2.2.1, gx_len q.2.2.1) ∧ gx_jok q.1 q.2.2.1 q.2.2.2 = true ∧ gx_rok 10 q.2.2.1 = true := by decide +kernel
/-- GreatestFlow$Net.save([I)V -/
def gx_t11 : List (Nat × Bool × Instr × Nat) := [(0, false, .aload_n 0, 0), (1, false, .getfield 24, 0), (4, false, .iconst 0, 0), (5, false, .aload_n 1, 0), (6, false, .iconst 0, 0), (7, false, .bipush 61, 0), (9, false, .invokestatic 53, 0), (12, false, .return_, 0)]
set_option maxRecDepth 20000 in
theorem gx_d11 : ∀ q ∈ gx_t11, decode (gx_code 11) q.1 = .ok (q.2.2.1, gx_len q.2.2.1) ∧ gx_jok q.1 q.2.2.1 q.2.2.2 = true ∧ gx_rok 11 q.2.2.1 = true := by decide +kernel
/-- GreatestFlow$Net.load([I)V -/
def gx_t12 : List (Nat × Bool × Instr × Nat) := [(0, false, .aload_n 1, 0), (1, false, .iconst 0, 0), (2, false, .aload_n 0, 0), (3, false, .getfield 24, 0), (6, false, .iconst 0, 0), (7, false, .bipush 61, 0), (9, false, .invokestatic 53, 0), (12, false, .return_, 0)]
set_option maxRecDepth 20000 in
theorem gx_d12 : ∀ q ∈ gx_t12, decode (gx_code 12) q.1 = .ok (q.2.2.1, gx_len q.2.2.1) ∧ gx_jok q.1 q.2.2.1 q.2.2.2 = true ∧ gx_rok 12 q.2.2.1 = true := by decide +kernel
/-- GreatestFlow$Net.hold(I)V -/
def gx_t13 : List (Nat × Bool × Instr × Nat) := [(0, false, .aload_n 0, 0), (1, false, .getfield 27, 0), (4, false, .iload_n 1, 0), (5, false, .iconst 1, 0), (6, false, .bastore, 0), (7, false, .return_, 0)]
set_option maxRecDepth 20000 in
theorem gx_d13 : ∀ q ∈ gx_t13, decode (gx_code 13) q.1 = .ok (q.2.2.1, gx_len q.2.2.1) ∧ gx_jok q.1 q.2.2.1 q.2.2.2 = true ∧ gx_rok 13 q.2.2.1 = true := by decide +kernel
/-- GreatestFlow$Net.mend()Z -/
def gx_t14 : List (Nat × Bool × Instr × Nat) := [(0, false, .iconst 0, 0), (1, false, .istore_n 1, 0), (2, true, .iload_n 1, 0), (3, false, .bipush 40, 0), (5, false, .if_icmp .ge 39, 44), (8, false, .aload_n 0, 0), (9, false, .getfield 9, 0), (12, false, .iload_n 1, 0), (13, false, .iaload, 0), (14, false, .aload_n 0, 0), (15, false, .getfield 24, 0), (18, false, .iload_n 1, 0), (19, false, .iaload, 0), (20, false, .isub, 0), (21, false, .istore_n 2, 0), (22, false, .iload_n 2, 0), (23, false, .ifCond .le 15, 38), (26, false, .aload_n 0, 0), (27, false, .iload_n 1, 0), (28, false, .iload_n 2, 0), (29, false, .invokevirtual 59, 0), (32, false, .iload_n 2, 0), (33, false, .if_icmp .ge 5, 38), (36, false, .iconst 0, 0), (37, false, .ireturn, 0), (38, false, .iinc 1 1, 0), (41, false, .goto (-39), 2), (44, false, .iconst 1, 0), (45, false, .ireturn, 0)]
set_option maxRecDepth 20000 in
theorem gx_d14 : ∀ q ∈ gx_t14, decode (gx_code 14) q.1 = .ok (q.2.2.1, gx_len q.2.2.1) ∧ gx_jok q.1 q.2.2.1 q.2.2.2 = true ∧ gx_rok 14 q.2.2.1 = true := by decide +kernel
/-- GreatestFlow$Net.raise(II)I -/
def gx_t15 : List (Nat × Bool × Instr × Nat) := [(0, false, .aload_n 0, 0), (1, false, .getfield 27, 0), (4, false, .iload_n 1, 0), (5, false, .iconst 1, 0), (6, false, .bastore, 0), (7, false, .aload_n 0, 0), (8, false, .aload_n 0, 0), (9, false, .getfield 21, 0), (12, false, .iload_n 1, 0), (13, false, .iaload, 0), (14, false, .aload_n 0, 0), (15, false, .getfield 18, 0), (18, false, .iload_n 1, 0), (19, false, .iaload, 0), (20, false, .iload_n 2, 0), (21, false, .aload_n 0, 0), (22, false, .getfield 15, 0), (25, false, .iload_n 1, 0), (26, false, .iaload, 0), (27, false, .aload_n 0, 0), (28, false, .getfield 24, 0), (31, false, .iload_n 1, 0), (32, false, .iaload, 0), (33, false, .isub, 0), (34, false, .invokestatic 63, 0), (37, false, .invokevirtual 68, 0), (40, false, .istore_n 3, 0), (41, false, .aload_n 0, 0), (42, false, .getfield 24, 0), (45, false, .iload_n 1, 0), (46, false, .dup2, 0), (47, false, .iaload, 0), (48, false, .iload_n 3, 0), (49, false, .iadd, 0), (50, false, .iastore, 0), (51, false, .aload_n 0, 0), (52, false, .getfield 27, 0), (55, false, .iload_n 1, 0), (56, false, .iconst 0, 0), (57, false, .bastore, 0), (58, false, .iload_n 3, 0), (59, false, .ireturn, 0)]
set_option maxRecDepth 20000 in
theorem gx_d15 : ∀ q ∈ gx_t15, decode (gx_code 15) q.1 = .ok (q.2.2.1, gx_len q.2.2.1) ∧ gx_jok q.1 q.2.2.1 q.2.2.2 = true ∧ gx_rok 15 q.2.2.1 = true := by decide +kernel
/-- GreatestFlow$Net.lower(I)V -/
def gx_t16 : List (Nat × Bool × Instr × Nat) := [(0, false, .aload_n 0, 0), (1, false, .getfield 27, 0), (4, false, .iload_n 1, 0), (5, false, .iconst 1, 0), (6, false, .bastore, 0), (7, false, .aload_n 0, 0), (8, false, .getfield 24, 0), (11, false, .iload_n 1, 0), (12, false, .dup2, 0), (13, false, .iaload, 0), (14, false, .aload_n 0, 0), (15, false, .aload_n 0, 0), (16, false, .getfield 18, 0), (19, false, .iload_n 1, 0), (20, false, .iaload, 0), (21, false, .aload_n 0, 0), (22, false, .getfield 21, 0), (25, false, .iload_n 1, 0), (26, false, .iaload, 0), (27, false, .aload_n 0, 0), (28, false, .getfield 24, 0), (31, false, .iload_n 1, 0), (32, false, .iaload, 0), (33, false, .aload_n 0, 0), (34, false, .getfield 9, 0), (37, false, .iload_n 1, 0), (38, false, .iaload, 0), (39, false, .isub, 0), (40, false, .invokevirtual 68, 0), (43, false, .isub, 0), (44, false, .iastore, 0), (45, false, .aload_n 0, 0), (46, false, .getfield 27, 0), (49, false, .iload_n 1, 0), (50, false, .iconst 0, 0), (51, false, .bastore, 0), (52, false, .return_, 0)]
set_option maxRecDepth 20000 in
theorem gx_d16 : ∀ q ∈ gx_t16, decode (gx_code 16) q.1 = .ok (q.2.2.1, gx_len q.2.2.1) ∧ gx_jok q.1 q.2.2.1 q.2.2.2 = true ∧ gx_rok 16 q.2.2.1 = true := by decide +kernel
/-- GreatestFlow$Net.carry(III)I -/
def gx_t17 : List (Nat × Bool × Instr × Nat) := [(0, false, .iconst 0, 0), (1, false, .istore 4, 0), (3, false, .iconst 0, 0), (4, false, .istore 5, 0), (6, true, .iload 5, 0), (8, false, .iload_n 3, 0), (9, false, .if_icmp .ge 55, 64), (12, false, .iload 4, 0), (14, false, .iload_n 3, 0), (15, false, .if_icmp .ge 49, 64), (18, false, .aload_n 0, 0), (19, false, .iload_n 1, 0), (20, false, .iload_n 2, 0), (21, false, .invokevirtual 72, 0), (24, false, .ifCond .ne 6, 30), (27, false, .goto 37, 64), (30, false, .iload_n 3, 0), (31, false, .iload 4, 0), (33, false, .isub, 0), (34, false, .aload_n 0, 0), (35, false, .iload_n 2, 0), (36, false, .invokevirtual 76, 0), (39, false, .invokestatic 63, 0), (42, false, .istore 6, 0), (44, false, .aload_n 0, 0), (45, false, .iload_n 2, 0), (46, false, .iload 6, 0), (48, false, .invokevirtual 80, 0), (51, false, .iload 4, 0), (53, false, .iload 6, 0), (55, false, .iadd, 0), (56, false, .istore 4, 0), (58, false, .iinc 5 1, 0), (61, false, .goto (-55), 6), (64, false, .iload 4, 0), (66, false, .ireturn, 0)]
set_option maxRecDepth 20000 in
theorem gx_d17 : ∀ q ∈ gx_t17, decode (gx_code 17) q.1 = .ok (q.2.2.1, gx_len q.2.2.1) ∧ gx_jok q.1 q.2.2.1 q.2.2.2 = true ∧ gx_rok 17 q.2.2.1 = true := by decide +kernel
/-- GreatestFlow$Net.reaches(II)Z -/
def gx_t18 : List (Nat × Bool × Instr × Nat) := [(0, false, .aload_n 0, 0), (1, false, .getfield 37, 0), (4, false, .iconst (-1), 0), (5, false, .invokestatic 43, 0), (8, false, .aload_n 0, 0), (9, false, .getfield 40, 0), (12, false, .iconst 0, 0), (13, false, .iload_n 1, 0), (14, false, .iastore, 0), (15, false, .iconst 1, 0), (16, false, .istore_n 3, 0), (17, false, .iconst 0, 0), (18, false, .istore 4, 0), (20, true, .iload 4, 0), (22, false, .iload_n 3, 0), (23, false, .if_icmp .ge 123, 146), (26, false, .iload 4, 0), (28, false, .bipush 22, 0), (30, false, .if_icmp .ge 116, 146), (33, false, .aload_n 0, 0), (34, false, .getfield 40, 0), (37, false, .iload 4, 0), (39, false, .iaload, 0), (40, false, .istore 5, 0), (42, false, .iconst 0, 0), (43, false, .istore 6, 0), (45, true, .iload 6, 0), (47, false, .aload_n 0, 0), (48, false, .getfield 34, 0), (51, false, .iload 5, 0), (53, false, .iaload, 0), (54, false, .if_icmp .ge 86, 140), (57, false, .aload_n 0, 0), (58, false, .getfield 31, 0), (61, false, .iload 5, 0), (63, false, .bipush 42, 0), (65, false, .imul, 0), (66, false, .iload 6, 0), (68, false, .iadd, 0), (69, false, .iaload, 0), (70, false, .istore 7, 0), (72, false, .aload_n 0, 0), (73, false, .iload 7, 0), (75, false, .invokevirtual 83, 0), (78, false, .istore 8, 0), (80, false, .iload 8, 0), (82, false, .iload_n 1, 0), (83, false, .if_icmp .eq 51, 134), (86, false, .aload_n 0, 0), (87, false, .getfield 37, 0), (90, false, .iload 8, 0), (92, false, .iaload, 0), (93, false, .iconst (-1), 0), (94, false, .if_icmp .ne 40, 134), (97, false, .aload_n 0, 0), (98, false, .iload 7, 0), (100, false, .invokevirtual 86, 0), (103, false, .ifCond .le 31, 134), (106, false, .aload_n 0, 0), (107, false, .getfield 37, 0), (110, false, .iload 8, 0), (112, false, .iload 7, 0), (114, false, .iastore, 0), (115, false, .iload 8, 0), (117, false, .iload_n 2, 0), (118, false, .if_icmp .ne 5, 123), (121, false, .iconst 1, 0), (122, false, .ireturn, 0), (123, false, .aload_n 0, 0), (124, false, .getfield 40, 0), (127, false, .iload_n 3, 0), (128, false, .iload 8, 0), (130, false, .iastore, 0), (131, false, .iinc 3 1, 0), (134, false, .iinc 6 1, 0), (137, false, .goto (-92), 45), (140, false, .iinc 4 1, 0), (143, false, .goto (-123), 20), (146, false, .iconst 0, 0), (147, false, .ireturn, 0)]
set_option maxRecDepth 20000 in
theorem gx_d18 : ∀ q ∈ gx_t18, decode (gx_code 18) q.1 = .ok (q.2.2.1, gx_len q.2.2.1) ∧ gx_jok q.1 q.2.2.1 q.2.2.2 = true ∧ gx_rok 18 q.2.2.1 = true := by decide +kernel
/-- GreatestFlow$Net.narrowest(I)I -/
def gx_t19 : List (Nat × Bool × Instr × Nat) := [(0, false, .ldc 89, 0), (2, false, .istore_n 2, 0), (3, false, .aload_n 0, 0), (4, false, .getfield 37, 0), (7, false, .iload_n 1, 0), (8, false, .iaload, 0), (9, false, .istore_n 3, 0), (10, false, .iconst 0, 0), (11, false, .istore 4, 0), (13, true, .iload 4, 0), (15, false, .bipush 22, 0), (17, false, .if_icmp .ge 37, 54), (20, false, .iload_n 3, 0), (21, false, .iconst (-1), 0), (22, false, .if_icmp .eq 32, 54), (25, false, .iload_n 2, 0), (26, false, .aload_n 0, 0), (27, false, .iload_n 3, 0), (28, false, .invokevirtual 86, 0), (31, false, .invokestatic 63, 0), (34, false, .istore_n 2, 0), (35, false, .aload_n 0, 0), (36, false, .getfield 37, 0), (39, false, .aload_n 0, 0), (40, false, .iload_n 3, 0), (41, false, .iconst 1, 0), (42, false, .ixor, 0), (43, false, .invokevirtual 83, 0), (46, false, .iaload, 0), (47, false, .istore_n 3, 0), (48, false, .iinc 4 1, 0), (51, false, .goto (-38), 13), (54, false, .iload_n 2, 0), (55, false, .ireturn, 0)]
set_option maxRecDepth 20000 in
theorem gx_d19 : ∀ q ∈ gx_t19, decode (gx_code 19) q.1 = .ok (q.2.2.1, gx_len q.2.2.1) ∧ gx_jok q.1 q.2.2.1 q.2.2.2 = true ∧ gx_rok 19 q.2.2.1 = true := by decide +kernel
/-- GreatestFlow$Net.send(II)V -/
def gx_t20 : List (Nat × Bool × Instr × Nat) := [(0, false, .aload_n 0, 0), (1, false, .getfield 37, 0), (4, false, .iload_n 1, 0), (5, false, .iaload, 0), (6, false, .istore_n 3, 0), (7, false, .iconst 0, 0), (8, false, .istore 4, 0), (10, true, .iload 4, 0), (12, false, .bipush 22, 0), (14, false, .if_icmp .ge 50, 64), (17, false, .iload_n 3, 0), (18, false, .iconst (-1), 0), (19, false, .if_icmp .eq 45, 64), (22, false, .aload_n 0, 0), (23, false, .getfield 24, 0), (26, false, .iload_n 3, 0), (27, false, .iconst 1, 0), (28, false, .ishr, 0), (29, false, .dup2, 0), (30, false, .iaload, 0), (31, false, .iload_n 3, 0), (32, false, .iconst 1, 0), (33, false, .iand, 0), (34, false, .ifCond .ne 7, 41), (37, false, .iload_n 2, 0), (38, false, .goto 5, 43), (41, false, .iload_n 2, 0), (42, false, .ineg, 0), (43, false, .iadd, 0), (44, false, .iastore, 0), (45, false, .aload_n 0, 0), (46, false, .getfield 37, 0), (49, false, .aload_n 0, 0), (50, false, .iload_n 3, 0), (51, false, .iconst 1, 0), (52, false, .ixor, 0), (53, false, .invokevirtual 83, 0), (56, false, .iaload, 0), (57, false, .istore_n 3, 0), (58, false, .iinc 4 1, 0), (61, false, .goto (-51), 10), (64, false, .return_, 0)]
set_option maxRecDepth 20000 in
theorem gx_d20 : ∀ q ∈ gx_t20, decode (gx_code 20) q.1 = .ok (q.2.2.1, gx_len q.2.2.1) ∧ gx_jok q.1 q.2.2.1 q.2.2.2 = true ∧ gx_rok 20 q.2.2.1 = true := by decide +kernel
/-- GreatestFlow$Net.endOf(I)I -/
def gx_t21 : List (Nat × Bool × Instr × Nat) := [(0, false, .iload_n 1, 0), (1, false, .iconst 1, 0), (2, false, .iand, 0), (3, false, .ifCond .ne 14, 17), (6, false, .aload_n 0, 0), (7, false, .getfield 21, 0), (10, false, .iload_n 1, 0), (11, false, .iconst 1, 0), (12, false, .ishr, 0), (13, false, .iaload, 0), (14, false, .goto 11, 25), (17, false, .aload_n 0, 0), (18, false, .getfield 18, 0), (21, false, .iload_n 1, 0), (22, false, .iconst 1, 0), (23, false, .ishr, 0), (24, false, .iaload, 0), (25, false, .ireturn, 0)]
set_option maxRecDepth 20000 in
theorem gx_d21 : ∀ q ∈ gx_t21, decode (gx_code 21) q.1 = .ok (q.2.2.1, gx_len q.2.2.1) ∧ gx_jok q.1 q.2.2.1 q.2.2.2 = true ∧ gx_rok 21 q.2.2.1 = true := by decide +kernel
/-- GreatestFlow$Net.leftOn(I)I -/
def gx_t22 : List (Nat × Bool × Instr × Nat) := [(0, false, .iload_n 1, 0), (1, false, .iconst 1, 0), (2, false, .ishr, 0), (3, false, .istore_n 2, 0), (4, false, .aload_n 0, 0), (5, false, .getfield 27, 0), (8, false, .iload_n 2, 0), (9, false, .baload, 0), (10, false, .ifCond .eq 5, 15), (13, false, .iconst 0, 0), (14, false, .ireturn, 0), (15, false, .iload_n 1, 0), (16, false, .iconst 1, 0), (17, false, .iand, 0), (18, false, .ifCond .ne 19, 37), (21, false, .aload_n 0, 0), (22, false, .getfield 15, 0), (25, false, .iload_n 2, 0), (26, false, .iaload, 0), (27, false, .aload_n 0, 0), (28, false, .getfield 24, 0), (31, false, .iload_n 2, 0), (32, false, .iaload, 0), (33, false, .isub, 0), (34, false, .goto 16, 50), (37, false, .aload_n 0, 0), (38, false, .getfield 24, 0), (41, false, .iload_n 2, 0), (42, false, .iaload, 0), (43, false, .aload_n 0, 0), (44, false, .getfield 9, 0), (47, false, .iload_n 2, 0), (48, false, .iaload, 0), (49, false, .isub, 0), (50, false, .ireturn, 0)]
set_option maxRecDepth 20000 in
theorem gx_d22 : ∀ q ∈ gx_t22, decode (gx_code 22) q.1 = .ok (q.2.2.1, gx_len q.2.2.1) ∧ gx_jok q.1 q.2.2.1 q.2.2.2 = true ∧ gx_rok 22 q.2.2.1 = true := by decide +kernel
/-- GreatestFlow$Parts.arcAt(II)I -/
def gx_t23 : List (Nat × Bool × Instr × Nat) := [(0, false, .iload_n 2, 0), (1, false, .aload_n 0, 0), (2, false, .getfield 15, 0), (5, false, .iload_n 1, 0), (6, false, .iaload, 0), (7, false, .if_icmp .ge 17, 24), (10, false, .aload_n 0, 0), (11, false, .getfield 18, 0), (14, false, .iload_n 1, 0), (15, false, .bipush 10, 0), (17, false, .imul, 0), (18, false, .iload_n 2, 0), (19, false, .iadd, 0), (20, false, .iaload, 0), (21, false, .goto 4, 25), (24, false, .iconst (-1), 0), (25, false, .ireturn, 0)]
set_option maxRecDepth 20000 in
theorem gx_d23 : ∀ q ∈ gx_t23, decode (gx_code 23) q.1 = .ok (q.2.2.1, gx_len q.2.2.1) ∧ gx_jok q.1 q.2.2.1 q.2.2.2 = true ∧ gx_rok 23 q.2.2.1 = true := by decide +kernel
/-- GreatestFlow$Parts.split(LGreatestFlow$Graph;[I)V -/
def gx_t24 : List (Nat × Bool × Instr × Nat) := [(0, false, .aload_n 0, 0), (1, false, .iconst 0, 0), (2, false, .putfield 33, 0), (5, false, .aload_n 2, 0), (6, false, .iconst 0, 0), (7, false, .aload_n 0, 0), (8, false, .getfield 21, 0), (11, false, .iconst 0, 0), (12, false, .bipush 40, 0), (14, false, .invokestatic 37, 0), (17, false, .iconst 0, 0), (18, false, .istore_n 3, 0), (19, true, .iload_n 3, 0), (20, false, .aload_n 1, 0), (21, false, .getfield 43, 0), (24, false, .if_icmp .ge 31, 55), (27, false, .aload_n 0, 0), (28, false, .getfield 24, 0), (31, false, .iload_n 3, 0), (32, false, .aload_n 1, 0), (33, false, .aload_n 2, 0), (34, false, .iload_n 3, 0), (35, false, .invokevirtual 48, 0), (38, false, .aload_n 1, 0), (39, false, .aload_n 2, 0), (40, false, .iload_n 3, 0), (41, false, .invokevirtual 52, 0), (44, false, .isub, 0), (45, false, .invokestatic 55, 0), (48, false, .iastore, 0), (49, false, .iinc 3 1, 0), (52, false, .goto (-33), 19), (55, false, .iconst 0, 0), (56, false, .istore_n 3, 0), (57, true, .iload_n 3, 0), (58, false, .bipush 50, 0), (60, false, .if_icmp .ge 30, 90), (63, false, .aload_n 0, 0), (64, false, .aload_n 1, 0), (65, false, .invokevirtual 61, 0), (68, false, .istore 4, 0), (70, false, .iload 4, 0), (72, false, .iconst (-1), 0), (73, false, .if_icmp .ne 4, 77), (76, false, .return_, 0), (77, false, .aload_n 0, 0), (78, false, .aload_n 1, 0), (79, false, .iload 4, 0), (81, false, .invokevirtual 65, 0), (84, false, .iinc 3 1, 0), (87, false, .goto (-30), 57), (90, false, .return_, 0)]
set_option maxRecDepth 20000 in
theorem gx_d24 : ∀ q ∈ gx_t24, decode (gx_code 24) q.1 = .ok (q.2.2.1, gx_len q.2.2.1) ∧ gx_jok q.1 q.2.2.1 q.2.2.2 = true ∧ gx_rok 24 q.2.2.1 = true := by decide +kernel
/-- GreatestFlow$Parts.leastGiver(LGreatestFlow$Graph;)I -/
def gx_t25 : List (Nat × Bool × Instr × Nat) := [(0, false, .iconst 0, 0), (1, false, .istore_n 2, 0), (2, true, .iload_n 2, 0), (3, false, .aload_n 1, 0), (4, false, .getfield 43, 0), (7, false, .if_icmp .ge 30, 37), (10, false, .aload_n 1, 0), (11, false, .getfield 69, 0), (14, false, .iload_n 2, 0), (15, false, .iaload, 0), (16, false, .iconst 1, 0), (17, false, .if_icmp .ne 14, 31), (20, false, .aload_n 0, 0), (21, false, .getfield 24, 0), (24, false, .iload_n 2, 0), (25, false, .iaload, 0), (26, false, .ifCond .le 5, 31), (29, false, .iload_n 2, 0), (30, false, .ireturn, 0), (31, false, .iinc 2 1, 0), (34, false, .goto (-32), 2), (37, false, .iconst (-1), 0), (38, false, .ireturn, 0)]
set_option maxRecDepth 20000 in
theorem gx_d25 : ∀ q ∈ gx_t25, decode (gx_code 25) q.1 = .ok (q.2.2.1, gx_len q.2.2.1) ∧ gx_jok q.1 q.2.2.1 q.2.2.2 = true ∧ gx_rok 25 q.2.2.1 = true := by decide +kernel
/-- GreatestFlow$Parts.walk(LGreatestFlow$Graph;I)V -/
def gx_t26 : List (Nat × Bool × Instr × Nat) := [(0, false, .aload_n 0, 0), (1, false, .getfield 27, 0), (4, false, .iconst (-1), 0), (5, false, .invokestatic 72, 0), (8, false, .iload_n 2, 0), (9, false, .istore_n 3, 0), (10, false, .iconst 0, 0), (11, false, .istore 4, 0), (13, true, .iload 4, 0), (15, false, .bipush 10, 0), (17, false, .if_icmp .gt 119, 136), (20, false, .aload_n 1, 0), (21, false, .getfield 69, 0), (24, false, .iload_n 3, 0), (25, false, .iaload, 0), (26, false, .iconst 2, 0), (27, false, .if_icmp .ne 21, 48), (30, false, .aload_n 0, 0), (31, false, .getfield 24, 0), (34, false, .iload_n 3, 0), (35, false, .iaload, 0), (36, false, .ifCond .le 12, 48), (39, false, .aload_n 0, 0), (40, false, .iload_n 2, 0), (41, false, .iload_n 3, 0), (42, false, .iload 4, 0), (44, false, .invokevirtual 78, 0), (47, false, .return_, 0), (48, false, .aload_n 0, 0), (49, false, .getfield 27, 0), (52, false, .iload_n 3, 0), (53, false, .iaload, 0), (54, false, .iconst (-1), 0), (55, false, .if_icmp .eq 28, 83), (58, false, .aload_n 0, 0), (59, false, .aload_n 0, 0), (60, false, .getfield 27, 0), (63, false, .iload_n 3, 0), (64, false, .iaload, 0), (65, false, .iload 4, 0), (67, false, .aload_n 0, 0), (68, false, .aload_n 0, 0), (69, false, .getfield 27, 0), (72, false, .iload_n 3, 0), (73, false, .iaload, 0), (74, false, .iload 4, 0), (76, false, .invokevirtual 82, 0), (79, false, .invokevirtual 86, 0), (82, false, .return_, 0), (83, false, .aload_n 0, 0), (84, false, .aload_n 1, 0), (85, false, .iload_n 3, 0), (86, false, .invokevirtual 89, 0), (89, false, .istore 5, 0), (91, false, .iload 5, 0), (93, false, .iconst (-1), 0), (94, false, .if_icmp .eq 10, 104), (97, false, .iload 4, 0), (99, false, .bipush 10, 0), (101, false, .if_icmp .ne 4, 105), (104, false, .return_, 0), (105, false, .aload_n 0, 0), (106, false, .getfield 27, 0), (109, false, .iload_n 3, 0), (110, false, .iload 4, 0), (112, false, .iastore, 0), (113, false, .aload_n 0, 0), (114, false, .getfield 30, 0), (117, false, .iload 4, 0), (119, false, .iload 5, 0), (121, false, .iastore, 0), (122, false, .aload_n 1, 0), (123, false, .getfield 93, 0), (126, false, .iload 5, 0), (128, false, .iaload, 0), (129, false, .istore_n 3, 0), (130, false, .iinc 4 1, 0), (133, false, .goto (-120), 13), (136, false, .return_, 0)]
set_option maxRecDepth 20000 in
theorem gx_d26 : ∀ q ∈ gx_t26, decode (gx_code 26) q.1 = .ok (q.2.2.1, gx_len q.2.2.1) ∧ gx_jok q.1 q.2.2.1 q.2.2.2 = true ∧ gx_rok 26 q.2.2.1 = true := by decide +kernel
/-- GreatestFlow$Parts.leastArcFrom(LGreatestFlow$Graph;I)I -/
def gx_t27 : List (Nat × Bool × Instr × Nat) := [(0, false, .iconst 0, 0), (1, false, .istore_n 3, 0), (2, true, .iload_n 3, 0), (3, false, .aload_n 1, 0), (4, false, .getfield 96, 0), (7, false, .if_icmp .ge 30, 37), (10, false, .aload_n 1, 0), (11, false, .getfield 99, 0), (14, false, .iload_n 3, 0), (15, false, .iaload, 0), (16, false, .iload_n 2, 0), (17, false, .if_icmp .ne 14, 31), (20, false, .aload_n 0, 0), (21, false, .getfield 21, 0), (24, false, .iload_n 3, 0), (25, false, .iaload, 0), (26, false, .ifCond .le 5, 31), (29, false, .iload_n 3, 0), (30, false, .ireturn, 0), (31, false, .iinc 3 1, 0), (34, false, .goto (-32), 2), (37, false, .iconst (-1), 0), (38, false, .ireturn, 0)]
set_option maxRecDepth 20000 in
theorem gx_d27 : ∀ q ∈ gx_t27, decode (gx_code 27) q.1 = .ok (q.2.2.1, gx_len q.2.2.1) ∧ gx_jok q.1 q.2.2.1 q.2.2.2 = true ∧ gx_rok 27 q.2.2.1 = true := by decide +kernel
/-- GreatestFlow$Parts.endStream(III)V -/
def gx_t28 : List (Nat × Bool × Instr × Nat) := [(0, false, .aload_n 0, 0), (1, false, .iconst 0, 0), (2, false, .iload_n 3, 0), (3, false, .invokevirtual 82, 0), (6, false, .aload_n 0, 0), (7, false, .getfield 24, 0), (10, false, .iload_n 1, 0), (11, false, .iaload, 0), (12, false, .aload_n 0, 0), (13, false, .getfield 24, 0), (16, false, .iload_n 2, 0), (17, false, .iaload, 0), (18, false, .invokestatic 102, 0), (21, false, .invokestatic 102, 0), (24, false, .istore 4, 0), (26, false, .aload_n 0, 0), (27, false, .iconst 0, 0), (28, false, .iload_n 3, 0), (29, false, .iload 4, 0), (31, false, .invokevirtual 86, 0), (34, false, .aload_n 0, 0), (35, false, .getfield 24, 0), (38, false, .iload_n 1, 0), (39, false, .dup2, 0), (40, false, .iaload, 0), (41, false, .iload 4, 0), (43, false, .isub, 0), (44, false, .iastore, 0), (45, false, .aload_n 0, 0), (46, false, .getfield 24, 0), (49, false, .iload_n 2, 0), (50, false, .dup2, 0), (51, false, .iaload, 0), (52, false, .iload 4, 0), (54, false, .isub, 0), (55, false, .iastore, 0), (56, false, .aload_n 0, 0), (57, false, .getfield 9, 0), (60, false, .aload_n 0, 0), (61, false, .getfield 33, 0), (64, false, .iload 4, 0), (66, false, .iastore, 0), (67, false, .aload_n 0, 0), (68, false, .getfield 15, 0), (71, false, .aload_n 0, 0), (72, false, .getfield 33, 0), (75, false, .iload_n 3, 0), (76, false, .iastore, 0), (77, false, .aload_n 0, 0), (78, false, .getfield 30, 0), (81, false, .iconst 0, 0), (82, false, .aload_n 0, 0), (83, false, .getfield 18, 0), (86, false, .aload_n 0, 0), (87, false, .getfield 33, 0), (90, false, .bipush 10, 0), (92, false, .imul, 0), (93, false, .iload_n 3, 0), (94, false, .invokestatic 37, 0), (97, false, .aload_n 0, 0), (98, false, .dup, 0), (99, false, .getfield 33, 0), (102, false, .iconst 1, 0), (103, false, .iadd, 0), (104, false, .putfield 33, 0), (107, false, .return_, 0)]
set_option maxRecDepth 20000 in
theorem gx_d28 : ∀ q ∈ gx_t28, decode (gx_code 28) q.1 = .ok (q.2.2.1, gx_len q.2.2.1) ∧ gx_jok q.1 q.2.2.1 q.2.2.2 = true ∧ gx_rok 28 q.2.2.1 = true := by decide +kernel
/-- GreatestFlow$Parts.leastLeft(II)I -/
def gx_t29 : List (Nat × Bool × Instr × Nat) := [(0, false, .ldc 105, 0), (2, false, .istore_n 3, 0), (3, false, .iload_n 1, 0), (4, false, .istore 4, 0), (6, true, .iload 4, 0), (8, false, .iload_n 2, 0), (9, false, .if_icmp .ge 26, 35), (12, false, .iload_n 3, 0), (13, false, .aload_n 0, 0), (14, false, .getfield 21, 0), (17, false, .aload_n 0, 0), (18, false, .getfield 30, 0), (21, false, .iload 4, 0), (23, false, .iaload, 0), (24, false, .iaload, 0), (25, false, .invokestatic 102, 0), (28, false, .istore_n 3, 0), (29, false, .iinc 4 1, 0), (32, false, .goto (-26), 6), (35, false, .iload_n 3, 0), (36, false, .ireturn, 0)]
set_option maxRecDepth 20000 in
theorem gx_d29 : ∀ q ∈ gx_t29, decode (gx_code 29) q.1 = .ok (q.2.2.1, gx_len q.2.2.1) ∧ gx_jok q.1 q.2.2.1 q.2.2.2 = true ∧ gx_rok 29 q.2.2.1 = true := by decide +kernel
/-- GreatestFlow$Parts.takeFromPath(III)V -/
def gx_t30 : List (Nat × Bool × Instr × Nat) := [(0, false, .iload_n 1, 0), (1, false, .istore 4, 0), (3, true, .iload 4, 0), (5, false, .iload_n 2, 0), (6, false, .if_icmp .ge 25, 31), (9, false, .aload_n 0, 0), (10, false, .getfield 21, 0), (13, false, .aload_n 0, 0), (14, false, .getfield 30, 0), (17, false, .iload 4, 0), (19, false, .iaload, 0), (20, false, .dup2, 0), (21, false, .iaload, 0), (22, false, .iload_n 3, 0), (23, false, .isub, 0), (24, false, .iastore, 0), (25, false, .iinc 4 1, 0), (28, false, .goto (-25), 3), (31, false, .return_, 0)]
set_option maxRecDepth 20000 in
theorem gx_d30 : ∀ q ∈ gx_t30, decode (gx_code 30) q.1 = .ok (q.2.2.1, gx_len q.2.2.1) ∧ gx_jok q.1 q.2.2.1 q.2.2.2 = true ∧ gx_rok 30 q.2.2.1 = true := by decide +kernel
/-- GreatestFlow.node()I -/
def gx_t31 : List (Nat × Bool × Instr × Nat) := [(0, false, .aload_n 0, 0), (1, false, .getfield 12, 0), (4, false, .getfield 46, 0), (7, false, .bipush 10, 0), (9, false, .if_icmp .lt 6, 15), (12, false, .bipush (-4), 0), (14, false, .ireturn, 0), (15, false, .aload_n 0, 0), (16, false, .invokevirtual 50, 0), (19, false, .aload_n 0, 0), (20, false, .getfield 12, 0), (23, false, .invokevirtual 53, 0), (26, false, .ireturn, 0)]
set_option maxRecDepth 20000 in
theorem gx_d31 : ∀ q ∈ gx_t31, decode (gx_code 31) q.1 = .ok (q.2.2.1, gx_len q.2.2.1) ∧ gx_jok q.1 q.2.2.1 q.2.2.2 = true ∧ gx_rok 31 q.2.2.1 = true := by decide +kernel
/-- GreatestFlow.kind(II)I -/
def gx_t32 : List (Nat × Bool × Instr × Nat) := [(0, false, .aload_n 0, 0), (1, false, .getfield 12, 0), (4, false, .iload_n 1, 0), (5, false, .invokevirtual 57, 0), (8, false, .ifCond .ne 5, 13), (11, false, .iconst (-1), 0), (12, false, .ireturn, 0), (13, false, .iload_n 2, 0), (14, false, .ifCond .lt 8, 22), (17, false, .iload_n 2, 0), (18, false, .iconst 2, 0), (19, false, .if_icmp .le 6, 25), (22, false, .bipush (-2), 0), (24, false, .ireturn, 0), (25, false, .aload_n 0, 0), (26, false, .getfield 12, 0), (29, false, .getfield 61, 0), (32, false, .iload_n 1, 0), (33, false, .iaload, 0), (34, false, .istore_n 3, 0), (35, false, .aload_n 0, 0), (36, false, .getfield 12, 0), (39, false, .getfield 61, 0), (42, false, .iload_n 1, 0), (43, false, .iload_n 2, 0), (44, false, .iastore, 0), (45, false, .aload_n 0, 0), (46, false, .invokevirtual 50, 0), (49, false, .iload_n 3, 0), (50, false, .ireturn, 0)]
set_option maxRecDepth 20000 in
theorem gx_d32 : ∀ q ∈ gx_t32, decode (gx_code 32) q.1 = .ok (q.2.2.1, gx_len q.2.2.1) ∧ gx_jok q.1 q.2.2.1 q.2.2.2 = true ∧ gx_rok 32 q.2.2.1 = true := by decide +kernel
/-- GreatestFlow.bound(II)I -/
def gx_t33 : List (Nat × Bool × Instr × Nat) := [(0, false, .aload_n 0, 0), (1, false, .getfield 12, 0), (4, false, .iload_n 1, 0), (5, false, .invokevirtual 57, 0), (8, false, .ifCond .ne 5, 13), (11, false, .iconst (-1), 0), (12, false, .ireturn, 0), (13, false, .iload_n 2, 0), (14, false, .iconst (-1), 0), (15, false, .if_icmp .lt 9, 24), (18, false, .iload_n 2, 0), (19, false, .ldc 64, 0), (21, false, .if_icmp .le 6, 27), (24, false, .bipush (-2), 0), (26, false, .ireturn, 0), (27, false, .aload_n 0, 0), (28, false, .getfield 12, 0), (31, false, .getfield 65, 0), (34, false, .iload_n 1, 0), (35, false, .iload_n 2, 0), (36, false, .iastore, 0), (37, false, .aload_n 0, 0), (38, false, .invokevirtual 50, 0), (41, false, .iconst 1, 0), (42, false, .ireturn, 0)]
set_option maxRecDepth 20000 in
theorem gx_d33 : ∀ q ∈ gx_t33, decode (gx_code 33) q.1 = .ok (q.2.2.1, gx_len q.2.2.1) ∧ gx_jok q.1 q.2.2.1 q.2.2.2 = true ∧ gx_rok 33 q.2.2.1 = true := by decide +kernel
/-- GreatestFlow.arc(IIII)I -/
def gx_t34 : List (Nat × Bool × Instr × Nat) := [(0, false, .aload_n 0, 0), (1, false, .getfield 12, 0), (4, false, .iload_n 1, 0), (5, false, .invokevirtual 57, 0), (8, false, .ifCond .eq 19, 27), (11, false, .aload_n 0, 0), (12, false, .getfield 12, 0), (15, false, .iload_n 2, 0), (16, false, .invokevirtual 57, 0), (19, false, .ifCond .eq 8, 27), (22, false, .iload_n 1, 0), (23, false, .iload_n 2, 0), (24, false, .if_icmp .ne 5, 29), (27, false, .iconst (-1), 0), (28, false, .ireturn, 0), (29, false, .iload_n 3, 0), (30, false, .iload 4, 0), (32, false, .invokestatic 68, 0), (35, false, .ifCond .ne 6, 41), (38, false, .bipush (-2), 0), (40, false, .ireturn, 0), (41, false, .aload_n 0, 0), (42, false, .getfield 12, 0), (45, false, .getfield 72, 0), (48, false, .bipush 40, 0), (50, false, .if_icmp .lt 6, 56), (53, false, .bipush (-4), 0), (55, false, .ireturn, 0), (56, false, .aload_n 0, 0), (57, false, .invokevirtual 50, 0), (60, false, .aload_n 0, 0), (61, false, .getfield 12, 0), (64, false, .iload_n 1, 0), (65, false, .iload_n 2, 0), (66, false, .iload_n 3, 0), (67, false, .iload 4, 0), (69, false, .invokevirtual 75, 0), (72, false, .ireturn, 0)]
set_option maxRecDepth 20000 in
theorem gx_d34 : ∀ q ∈ gx_t34, decode (gx_code 34) q.1 = .ok (q.2.2.1, gx_len q.2.2.1) ∧ gx_jok q.1 q.2.2.1 q.2.2.2 = true ∧ gx_rok 34 q.2.2.1 = true := by decide +kernel
/-- GreatestFlow.change(III)I -/
def gx_t35 : List (Nat × Bool × Instr × Nat) := [(0, false, .aload_n 0, 0), (1, false, .getfield 12, 0), (4, false, .iload_n 1, 0), (5, false, .invokevirtual 79, 0), (8, false, .ifCond .ne 5, 13), (11, false, .iconst (-1), 0), (12, false, .ireturn, 0), (13, false, .iload_n 2, 0), (14, false, .iload_n 3, 0), (15, false, .invokestatic 68, 0), (18, false, .ifCond .ne 6, 24), (21, false, .bipush (-2), 0), (23, false, .ireturn, 0), (24, false, .aload_n 0, 0), (25, false, .getfield 12, 0), (28, false, .getfield 82, 0), (31, false, .iload_n 1, 0), (32, false, .iload_n 2, 0), (33, false, .iastore, 0), (34, false, .aload_n 0, 0), (35, false, .getfield 12, 0), (38, false, .getfield 85, 0), (41, false, .iload_n 1, 0), (42, false, .iload_n 3, 0), (43, false, .iastore, 0), (44, false, .aload_n 0, 0), (45, false, .invokevirtual 50, 0), (48, false, .iconst 1, 0), (49, false, .ireturn, 0)]
set_option maxRecDepth 20000 in
theorem gx_d35 : ∀ q ∈ gx_t35, decode (gx_code 35) q.1 = .ok (q.2.2.1, gx_len q.2.2.1) ∧ gx_jok q.1 q.2.2.1 q.2.2.2 = true ∧ gx_rok 35 q.2.2.1 = true := by decide +kernel
/-- GreatestFlow.drop(I)I -/
def gx_t36 : List (Nat × Bool × Instr × Nat) := [(0, false, .aload_n 0, 0), (1, false, .getfield 12, 0), (4, false, .iload_n 1, 0), (5, false, .invokevirtual 79, 0), (8, false, .ifCond .ne 5, 13), (11, false, .iconst (-1), 0), (12, false, .ireturn, 0), (13, false, .aload_n 0, 0), (14, false, .invokevirtual 50, 0), (17, false, .aload_n 0, 0), (18, false, .getfield 12, 0), (21, false, .iload_n 1, 0), (22, false, .invokevirtual 88, 0), (25, false, .ireturn, 0)]
set_option maxRecDepth 20000 in
theorem gx_d36 : ∀ q ∈ gx_t36, decode (gx_code 36) q.1 = .ok (q.2.2.1, gx_len q.2.2.1) ∧ gx_jok q.1 q.2.2.1 q.2.2.2 = true ∧ gx_rok 36 q.2.2.1 = true := by decide +kernel
/-- GreatestFlow.clear()I -/
def gx_t37 : List (Nat × Bool × Instr × Nat) := [(0, false, .aload_n 0, 0), (1, false, .invokevirtual 50, 0), (4, false, .aload_n 0, 0), (5, false, .getfield 12, 0), (8, false, .invokevirtual 92, 0), (11, false, .ireturn, 0)]
set_option maxRecDepth 20000 in
theorem gx_d37 : ∀ q ∈ gx_t37, decode (gx_code 37) q.1 = .ok (q.2.2.1, gx_len q.2.2.1) ∧ gx_jok q.1 q.2.2.1 q.2.2.2 = true ∧ gx_rok 37 q.2.2.1 = true := by decide +kernel
/-- GreatestFlow.run()I -/
def gx_t38 : List (Nat × Bool × Instr × Nat) := [(0, false, .aload_n 0, 0), (1, false, .invokevirtual 95, 0), (4, false, .ifCond .eq 7, 11), (7, false, .iconst 1, 0), (8, false, .goto 4, 12), (11, false, .iconst 0, 0), (12, false, .ireturn, 0)]
set_option maxRecDepth 20000 in
theorem gx_d38 : ∀ q ∈ gx_t38, decode (gx_code 38) q.1 = .ok (q.2.2.1, gx_len q.2.2.1) ∧ gx_jok q.1 q.2.2.1 q.2.2.2 = true ∧ gx_rok 38 q.2.2.1 = true := by decide +kernel
/-- GreatestFlow.value(I)I -/
def gx_t39 : List (Nat × Bool × Instr × Nat) := [(0, false, .iload_n 1, 0), (1, false, .invokestatic 99, 0), (4, false, .ifCond .ne 5, 9), (7, false, .iconst (-1), 0), (8, false, .ireturn, 0), (9, false, .aload_n 0, 0), (10, false, .invokevirtual 95, 0), (13, false, .ifCond .ne 6, 19), (16, false, .bipush (-3), 0), (18, false, .ireturn, 0), (19, false, .aload_n 0, 0), (20, false, .iload_n 1, 0), (21, false, .invokevirtual 102, 0), (24, false, .bipush 60, 0), (26, false, .iaload, 0), (27, false, .ireturn, 0)]
set_option maxRecDepth 20000 in
theorem gx_d39 : ∀ q ∈ gx_t39, decode (gx_code 39) q.1 = .ok (q.2.2.1, gx_len q.2.2.1) ∧ gx_jok q.1 q.2.2.1 q.2.2.2 = true ∧ gx_rok 39 q.2.2.1 = true := by decide +kernel
/-- GreatestFlow.on(II)I -/
def gx_t40 : List (Nat × Bool × Instr × Nat) := [(0, false, .iload_n 1, 0), (1, false, .invokestatic 99, 0), (4, false, .ifCond .eq 14, 18), (7, false, .aload_n 0, 0), (8, false, .getfield 12, 0), (11, false, .iload_n 2, 0), (12, false, .invokevirtual 79, 0), (15, false, .ifCond .ne 5, 20), (18, false, .iconst (-1), 0), (19, false, .ireturn, 0), (20, false, .aload_n 0, 0), (21, false, .invokevirtual 95, 0), (24, false, .ifCond .ne 6, 30), (27, false, .bipush (-3), 0), (29, false, .ireturn, 0), (30, false, .aload_n 0, 0), (31, false, .iload_n 1, 0), (32, false, .invokevirtual 102, 0), (35, false, .iload_n 2, 0), (36, false, .iaload, 0), (37, false, .ireturn, 0)]
set_option maxRecDepth 20000 in
theorem gx_d40 : ∀ q ∈ gx_t40, decode (gx_code 40) q.1 = .ok (q.2.2.1, gx_len q.2.2.1) ∧ gx_jok q.1 q.2.2.1 q.2.2.2 = true ∧ gx_rok 40 q.2.2.1 = true := by decide +kernel
/-- GreatestFlow.through(II)I -/
def gx_t41 : List (Nat × Bool × Instr × Nat) := [(0, false, .iload_n 1, 0), (1, false, .invokestatic 99, 0), (4, false, .ifCond .eq 14, 18), (7, false, .aload_n 0, 0), (8, false, .getfield 12, 0), (11, false, .iload_n 2, 0), (12, false, .invokevirtual 57, 0), (15, false, .ifCond .ne 5, 20), (18, false, .iconst (-1), 0), (19, false, .ireturn, 0), (20, false, .aload_n 0, 0), (21, false, .invokevirtual 95, 0), (24, false, .ifCond .ne 6, 30), (27, false, .bipush (-3), 0), (29, false, .ireturn, 0), (30, false, .aload_n 0, 0), (31, false, .iload_n 1, 0), (32, false, .invokevirtual 102, 0), (35, false, .astore_n 3, 0), (36, false, .aload_n 0, 0), (37, false, .getfield 12, 0), (40, false, .aload_n 3, 0), (41, false, .iload_n 2, 0), (42, false, .invokevirtual 106, 0), (45, false, .aload_n 0, 0), (46, false, .getfield 12, 0), (49, false, .aload_n 3, 0), (50, false, .iload_n 2, 0), (51, false, .invokevirtual 110, 0), (54, false, .invokestatic 113, 0), (57, false, .ireturn, 0)]
set_option maxRecDepth 20000 in
theorem gx_d41 : ∀ q ∈ gx_t41, decode (gx_code 41) q.1 = .ok (q.2.2.1, gx_len q.2.2.1) ∧ gx_jok q.1 q.2.2.1 q.2.2.2 = true ∧ gx_rok 41 q.2.2.1 = true := by decide +kernel
/-- GreatestFlow.near(I)I -/
def gx_t42 : List (Nat × Bool × Instr × Nat) := [(0, false, .aload_n 0, 0), (1, false, .iload_n 1, 0), (2, false, .iconst 2, 0), (3, false, .invokevirtual 119, 0), (6, false, .ireturn, 0)]
set_option maxRecDepth 20000 in
theorem gx_d42 : ∀ q ∈ gx_t42, decode (gx_code 42) q.1 = .ok (q.2.2.1, gx_len q.2.2.1) ∧ gx_jok q.1 q.2.2.1 q.2.2.2 = true ∧ gx_rok 42 q.2.2.1 = true := by decide +kernel
/-- GreatestFlow.far(I)I -/
def gx_t43 : List (Nat × Bool × Instr × Nat) := [(0, false, .aload_n 0, 0), (1, false, .iload_n 1, 0), (2, false, .iconst 1, 0), (3, false, .invokevirtual 119, 0), (6, false, .ireturn, 0)]
set_option maxRecDepth 20000 in
theorem gx_d43 : ∀ q ∈ gx_t43, decode (gx_code 43) q.1 = .ok (q.2.2.1, gx_len q.2.2.1) ∧ gx_jok q.1 q.2.2.1 q.2.2.2 = true ∧ gx_rok 43 q.2.2.1 = true := by decide +kernel
/-- GreatestFlow.tight(I)I -/
def gx_t44 : List (Nat × Bool × Instr × Nat) := [(0, false, .aload_n 0, 0), (1, false, .getfield 12, 0), (4, false, .iload_n 1, 0), (5, false, .invokevirtual 79, 0), (8, false, .ifCond .ne 5, 13), (11, false, .iconst (-1), 0), (12, false, .ireturn, 0), (13, false, .aload_n 0, 0), (14, false, .invokevirtual 95, 0), (17, false, .ifCond .ne 6, 23), (20, false, .bipush (-3), 0), (22, false, .ireturn, 0), (23, false, .aload_n 0, 0), (24, false, .invokevirtual 122, 0), (27, false, .aload_n 0, 0), (28, false, .getfield 19, 0), (31, false, .getfield 125, 0), (34, false, .iload_n 1, 0), (35, false, .dup2, 0), (36, false, .iaload, 0), (37, false, .iconst 1, 0), (38, false, .iadd, 0), (39, false, .iastore, 0), (40, false, .aload_n 0, 0), (41, false, .getfield 19, 0), (44, false, .bipush 60, 0), (46, false, .iconst 1, 0), (47, false, .invokevirtual 128, 0), (50, false, .ireturn, 0)]
set_option maxRecDepth 20000 in
theorem gx_d44 : ∀ q ∈ gx_t44, decode (gx_code 44) q.1 = .ok (q.2.2.1, gx_len q.2.2.1) ∧ gx_jok q.1 q.2.2.1 q.2.2.2 = true ∧ gx_rok 44 q.2.2.1 = true := by decide +kernel
/-- GreatestFlow.barred(I)I -/
def gx_t45 : List (Nat × Bool × Instr × Nat) := [(0, false, .aload_n 0, 0), (1, false, .invokevirtual 95, 0), (4, false, .ifCond .eq 6, 10), (7, false, .bipush (-2), 0), (9, false, .ireturn, 0), (10, false, .aload_n 0, 0), (11, false, .getfield 131, 0), (14, false, .ifCond .ne 7, 21), (17, false, .aload_n 0, 0), (18, false, .invokevirtual 135, 0), (21, false, .iload_n 1, 0), (22, false, .ifCond .lt 11, 33), (25, false, .iload_n 1, 0), (26, false, .aload_n 0, 0), (27, false, .getfield 138, 0), (30, false, .if_icmp .lt 5, 35), (33, false, .iconst (-1), 0), (34, false, .ireturn, 0), (35, false, .aload_n 0, 0), (36, false, .getfield 43, 0), (39, false, .aload_n 0, 0), (40, false, .getfield 138, 0), (43, false, .iconst 1, 0), (44, false, .isub, 0), (45, false, .iload_n 1, 0), (46, false, .isub, 0), (47, false, .iaload, 0), (48, false, .ireturn, 0)]
set_option maxRecDepth 20000 in
theorem gx_d45 : ∀ q ∈ gx_t45, decode (gx_code 45) q.1 = .ok (q.2.2.1, gx_len q.2.2.1) ∧ gx_jok q.1 q.2.2.1 q.2.2.2 = true ∧ gx_rok 45 q.2.2.1 = true := by decide +kernel
/-- GreatestFlow.streams()I -/
def gx_t46 : List (Nat × Bool × Instr × Nat) := [(0, false, .aload_n 0, 0), (1, false, .invokevirtual 95, 0), (4, false, .ifCond .ne 6, 10), (7, false, .bipush (-3), 0), (9, false, .ireturn, 0), (10, false, .aload_n 0, 0), (11, false, .invokevirtual 141, 0), (14, false, .aload_n 0, 0), (15, false, .getfield 26, 0), (18, false, .getfield 144, 0), (21, false, .ireturn, 0)]
set_option maxRecDepth 20000 in
theorem gx_d46 : ∀ q ∈ gx_t46, decode (gx_code 46) q.1 = .ok (q.2.2.1, gx_len q.2.2.1) ∧ gx_jok q.1 q.2.2.1 q.2.2.2 = true ∧ gx_rok 46 q.2.2.1 = true := by decide +kernel
/-- GreatestFlow.stream(II)I -/
def gx_t47 : List (Nat × Bool × Instr × Nat) := [(0, false, .aload_n 0, 0), (1, false, .invokevirtual 95, 0), (4, false, .ifCond .ne 6, 10), (7, false, .bipush (-3), 0), (9, false, .ireturn, 0), (10, false, .aload_n 0, 0), (11, false, .invokevirtual 141, 0), (14, false, .iload_n 1, 0), (15, false, .ifCond .lt 14, 29), (18, false, .iload_n 1, 0), (19, false, .aload_n 0, 0), (20, false, .getfield 26, 0), (23, false, .getfield 144, 0), (26, false, .if_icmp .lt 5, 31), (29, false, .iconst (-1), 0), (30, false, .ireturn, 0), (31, false, .iload_n 2, 0), (32, false, .ifCond .ge 6, 38), (35, false, .bipush (-2), 0), (37, false, .ireturn, 0), (38, false, .iload_n 2, 0), (39, false, .ifCond .ne 13, 52), (42, false, .aload_n 0, 0), (43, false, .getfield 26, 0), (46, false, .getfield 147, 0), (49, false, .iload_n 1, 0), (50, false, .iaload, 0), (51, false, .ireturn, 0), (52, false, .iload_n 2, 0), (53, false, .iconst 1, 0), (54, false, .if_icmp .ne 13, 67), (57, false, .aload_n 0, 0), (58, false, .getfield 26, 0), (61, false, .getfield 150, 0), (64, false, .iload_n 1, 0), (65, false, .iaload, 0), (66, false, .ireturn, 0), (67, false, .aload_n 0, 0), (68, false, .getfield 26, 0), (71, false, .iload_n 1, 0), (72, false, .iload_n 2, 0), (73, false, .iconst 2, 0), (74, false, .isub, 0), (75, false, .invokevirtual 153, 0), (78, false, .ireturn, 0)]
set_option maxRecDepth 20000 in
theorem gx_d47 : ∀ q ∈ gx_t47, decode (gx_code 47) q.1 = .ok (q.2.2.1, gx_len q.2.2.1) ∧ gx_jok q.1 q.2.2.1 q.2.2.2 = true ∧ gx_rok 47 q.2.2.1 = true := by decide +kernel
/-- GreatestFlow.isWay(I)Z -/
def gx_t48 : List (Nat × Bool × Instr × Nat) := [(0, false, .iload_n 0, 0), (1, false, .ifCond .eq 8, 9), (4, false, .iload_n 0, 0), (5, false, .iconst 1, 0), (6, false, .if_icmp .ne 7, 13), (9, false, .iconst 1, 0), (10, false, .goto 4, 14), (13, false, .iconst 0, 0), (14, false, .ireturn, 0)]
set_option maxRecDepth 20000 in
theorem gx_d48 : ∀ q ∈ gx_t48, decode (gx_code 48) q.1 = .ok (q.2.2.1, gx_len q.2.2.1) ∧ gx_jok q.1 q.2.2.1 q.2.2.2 = true ∧ gx_rok 48 q.2.2.1 = true := by decide +kernel
/-- GreatestFlow.areArcBounds(II)Z -/
def gx_t49 : List (Nat × Bool × Instr × Nat) := [(0, false, .iload_n 0, 0), (1, false, .ifCond .lt 19, 20), (4, false, .iload_n 0, 0), (5, false, .iload_n 1, 0), (6, false, .if_icmp .gt 14, 20), (9, false, .iload_n 1, 0), (10, false, .sipush 1000, 0), (13, false, .if_icmp .gt 7, 20), (16, false, .iconst 1, 0), (17, false, .goto 4, 21), (20, false, .iconst 0, 0), (21, false, .ireturn, 0)]
set_option maxRecDepth 20000 in
theorem gx_d49 : ∀ q ∈ gx_t49, decode (gx_code 49) q.1 = .ok (q.2.2.1, gx_len q.2.2.1) ∧ gx_jok q.1 q.2.2.1 q.2.2.2 = true ∧ gx_rok 49 q.2.2.1 = true := by decide +kernel
/-- GreatestFlow.cameIn(I)I -/
def gx_t50 : List (Nat × Bool × Instr × Nat) := [(0, false, .iconst 2, 0), (1, false, .iload_n 0, 0), (2, false, .imul, 0), (3, false, .ireturn, 0)]
set_option maxRecDepth 20000 in
theorem gx_d50 : ∀ q ∈ gx_t50, decode (gx_code 50) q.1 = .ok (q.2.2.1, gx_len q.2.2.1) ∧ gx_jok q.1 q.2.2.1 q.2.2.2 = true ∧ gx_rok 50 q.2.2.1 = true := by decide +kernel
/-- GreatestFlow.goesOut(I)I -/
def gx_t51 : List (Nat × Bool × Instr × Nat) := [(0, false, .iconst 2, 0), (1, false, .iload_n 0, 0), (2, false, .imul, 0), (3, false, .iconst 1, 0), (4, false, .iadd, 0), (5, false, .ireturn, 0)]
set_option maxRecDepth 20000 in
theorem gx_d51 : ∀ q ∈ gx_t51, decode (gx_code 51) q.1 = .ok (q.2.2.1, gx_len q.2.2.1) ∧ gx_jok q.1 q.2.2.1 q.2.2.2 = true ∧ gx_rok 51 q.2.2.1 = true := by decide +kernel
/-- GreatestFlow.forget()V -/
def gx_t52 : List (Nat × Bool × Instr × Nat) := [(0, false, .aload_n 0, 0), (1, false, .iconst 0, 0), (2, false, .putfield 156, 0), (5, false, .aload_n 0, 0), (6, false, .getfield 39, 0), (9, false, .iconst 0, 0), (10, false, .iconst 0, 0), (11, false, .bastore, 0), (12, false, .aload_n 0, 0), (13, false, .getfield 39, 0), (16, false, .iconst 1, 0), (17, false, .iconst 0, 0), (18, false, .bastore, 0), (19, false, .aload_n 0, 0), (20, false, .iconst 0, 0), (21, false, .putfield 131, 0), (24, false, .aload_n 0, 0), (25, false, .iconst 0, 0), (26, false, .putfield 159, 0), (29, false, .return_, 0)]
set_option maxRecDepth 20000 in
theorem gx_d52 : ∀ q ∈ gx_t52, decode (gx_code 52) q.1 = .ok (q.2.2.1, gx_len q.2.2.1) ∧ gx_jok q.1 q.2.2.1 q.2.2.2 = true ∧ gx_rok 52 q.2.2.1 = true := by decide +kernel
/-- GreatestFlow.hasFlow()Z -/
def gx_t53 : List (Nat × Bool × Instr × Nat) := [(0, false, .aload_n 0, 0), (1, false, .getfield 156, 0), (4, false, .ifCond .ne 34, 38), (7, false, .aload_n 0, 0), (8, false, .invokevirtual 162, 0), (11, false, .aload_n 0, 0), (12, false, .aload_n 0, 0), (13, false, .getfield 19, 0), (16, false, .invokevirtual 165, 0), (19, false, .putfield 168, 0), (22, false, .aload_n 0, 0), (23, false, .getfield 19, 0), (26, false, .aload_n 0, 0), (27, false, .getfield 30, 0), (30, false, .invokevirtual 171, 0), (33, false, .aload_n 0, 0), (34, false, .iconst 1, 0), (35, false, .putfield 156, 0), (38, false, .aload_n 0, 0), (39, false, .getfield 168, 0), (42, false, .ireturn, 0)]
set_option maxRecDepth 20000 in
theorem gx_d53 : ∀ q ∈ gx_t53, decode (gx_code 53) q.1 = .ok (q.2.2.1, gx_len q.2.2.1) ∧ gx_jok q.1 q.2.2.1 q.2.2.2 = true ∧ gx_rok 53 q.2.2.1 = true := by decide +kernel
/-- GreatestFlow.first(I)[I -/
def gx_t54 : List (Nat × Bool × Instr × Nat) := [(0, false, .aload_n 0, 0), (1, false, .getfield 39, 0), (4, false, .iload_n 1, 0), (5, false, .baload, 0), (6, false, .ifCond .ne 110, 116), (9, false, .aload_n 0, 0), (10, false, .invokevirtual 162, 0), (13, false, .aload_n 0, 0), (14, false, .getfield 19, 0), (17, false, .aload_n 0, 0), (18, false, .getfield 30, 0), (21, false, .invokevirtual 175, 0), (24, false, .iload_n 1, 0), (25, false, .ifCond .ne 18, 43), (28, false, .aload_n 0, 0), (29, false, .getfield 19, 0), (32, false, .bipush 60, 0), (34, false, .ldc 64, 0), (36, false, .invokevirtual 128, 0), (39, false, .pop, 0), (40, false, .goto 12, 52), (43, false, .aload_n 0, 0), (44, false, .getfield 19, 0), (47, false, .bipush 60, 0), (49, false, .invokevirtual 178, 0), (52, false, .aload_n 0, 0), (53, false, .getfield 19, 0), (56, false, .bipush 60, 0), (58, false, .invokevirtual 182, 0), (61, false, .iconst 0, 0), (62, false, .istore_n 2, 0), (63, true, .iload_n 2, 0), (64, false, .aload_n 0, 0), (65, false, .getfield 12, 0), (68, false, .getfield 72, 0), (71, false, .if_icmp .ge 25, 96), (74, false, .aload_n 0, 0), (75, false, .getfield 19, 0), (78, false, .iload_n 2, 0), (79, false, .invokevirtual 178, 0), (82, false, .aload_n 0, 0), (83, false, .getfield 19, 0), (86, false, .iload_n 2, 0), (87, false, .invokevirtual 182, 0), (90, false, .iinc 2 1, 0), (93, false, .goto (-30), 63), (96, false, .aload_n 0, 0), (97, false, .getfield 19, 0), (100, false, .aload_n 0, 0), (101, false, .getfield 36, 0), (104, false, .iload_n 1, 0), (105, false, .aaload, 0), (106, false, .invokevirtual 171, 0), (109, false, .aload_n 0, 0), (110, false, .getfield 39, 0), (113, false, .iload_n 1, 0), (114, false, .iconst 1, 0), (115, false, .bastore, 0), (116, false, .aload_n 0, 0), (117, false, .getfield 36, 0), (120, false, .iload_n 1, 0), (121, false, .aaload, 0), (122, false, .areturn, 0)]
set_option maxRecDepth 20000 in
theorem gx_d54 : ∀ q ∈ gx_t54, decode (gx_code 54) q.1 = .ok (q.2.2.1, gx_len q.2.2.1) ∧ gx_jok q.1 q.2.2.1 q.2.2.2 = true ∧ gx_rok 54 q.2.2.1 = true := by decide +kernel
/-- GreatestFlow.layOut()V -/
def gx_t55 : List (Nat × Bool × Instr × Nat) := [(0, false, .aload_n 0, 0), (1, false, .getfield 19, 0), (4, false, .invokevirtual 185, 0), (7, false, .iconst 0, 0), (8, false, .istore_n 1, 0), (9, true, .iload_n 1, 0), (10, false, .aload_n 0, 0), (11, false, .getfield 12, 0), (14, false, .getfield 46, 0), (17, false, .if_icmp .ge 64, 81), (20, false, .aload_n 0, 0), (21, false, .getfield 12, 0), (24, false, .getfield 65, 0), (27, false, .iload_n 1, 0), (28, false, .iaload, 0), (29, false, .istore_n 2, 0), (30, false, .aload_n 0, 0), (31, false, .getfield 19, 0), (34, false, .bipush 40, 0), (36, false, .iload_n 1, 0), (37, false, .iadd, 0), (38, false, .iload_n 1, 0), (39, false, .invokestatic 188, 0), (42, false, .iload_n 1, 0), (43, false, .invokestatic 191, 0), (46, false, .iconst 0, 0), (47, false, .iload_n 2, 0), (48, false, .iconst (-1), 0), (49, false, .if_icmp .ne 8, 57), (52, false, .ldc 64, 0), (54, false, .goto 4, 58), (57, false, .iload_n 2, 0), (58, false, .invokevirtual 194, 0), (61, false, .aload_n 0, 0), (62, false, .iload_n 1, 0), (63, false, .aload_n 0, 0), (64, false, .getfield 12, 0), (67, false, .getfield 61, 0), (70, false, .iload_n 1, 0), (71, false, .iaload, 0), (72, false, .invokevirtual 198, 0), (75, false, .iinc 1 1, 0), (78, false, .goto (-69), 9), (81, false, .iconst 0, 0), (82, false, .istore_n 1, 0), (83, true, .iload_n 1, 0), (84, false, .aload_n 0, 0), (85, false, .getfield 12, 0), (88, false, .getfield 72, 0), (91, false, .if_icmp .ge 74, 165), (94, false, .aload_n 0, 0), (95, false, .getfield 12, 0), (98, false, .iload_n 1, 0), (99, false, .invokevirtual 79, 0), (102, false, .ifCond .eq 57, 159), (105, false, .aload_n 0, 0), (106, false, .getfield 12, 0), (109, false, .getfield 202, 0), (112, false, .iload_n 1, 0), (113, false, .iaload, 0), (114, false, .invokestatic 191, 0), (117, false, .istore_n 2, 0), (118, false, .aload_n 0, 0), (119, false, .getfield 12, 0), (122, false, .getfield 205, 0), (125, false, .iload_n 1, 0), (126, false, .iaload, 0), (127, false, .invokestatic 188, 0), (130, false, .istore_n 3, 0), (131, false, .aload_n 0, 0), (132, false, .getfield 19, 0), (135, false, .iload_n 1, 0), (136, false, .iload_n 2, 0), (137, false, .iload_n 3, 0), (138, false, .aload_n 0, 0), (139, false, .getfield 12, 0), (142, false, .getfield 82, 0), (145, false, .iload_n 1, 0), (146, false, .iaload, 0), (147, false, .aload_n 0, 0), (148, false, .getfield 12, 0), (151, false, .getfield 85, 0), (154, false, .iload_n 1, 0), (155, false, .iaload, 0), (156, false, .invokevirtual 194, 0), (159, false, .iinc 1 1, 0), (162, false, .goto (-79), 83), (165, false, .aload_n 0, 0), (166, false, .getfield 19, 0), (169, false, .bipush 60, 0), (171, false, .bipush 21, 0), (173, false, .bipush 20, 0), (175, false, .iconst 0, 0), (176, false, .ldc 64, 0), (178, false, .invokevirtual 194, 0), (181, false, .return_, 0)]
set_option maxRecDepth 20000 in
theorem gx_d55 : ∀ q ∈ gx_t55, decode (gx_code 55) q.1 = .ok (q.2.2.1, gx_len q.2.2.1) ∧ gx_jok q.1 q.2.2.1 q.2.2.2 = true ∧ gx_rok 55 q.2.2.1 = true := by decide +kernel
/-- GreatestFlow.layOutEnd(II)V -/
def gx_t56 : List (Nat × Bool × Instr × Nat) := [(0, false, .iload_n 2, 0), (1, false, .iconst 1, 0), (2, false, .if_icmp .ne 26, 28), (5, false, .aload_n 0, 0), (6, false, .getfield 19, 0), (9, false, .bipush 50, 0), (11, false, .iload_n 1, 0), (12, false, .iadd, 0), (13, false, .bipush 20, 0), (15, false, .iload_n 1, 0), (16, false, .invokestatic 188, 0), (19, false, .iconst 0, 0), (20, false, .ldc 64, 0), (22, false, .invokevirtual 194, 0), (25, false, .goto 28, 53), (28, false, .iload_n 2, 0), (29, false, .iconst 2, 0), (30, false, .if_icmp .ne 23, 53), (33, false, .aload_n 0, 0), (34, false, .getfield 19, 0), (37, false, .bipush 50, 0), (39, false, .iload_n 1, 0), (40, false, .iadd, 0), (41, false, .iload_n 1, 0), (42, false, .invokestatic 191, 0), (45, false, .bipush 21, 0), (47, false, .iconst 0, 0), (48, false, .ldc 64, 0), (50, false, .invokevirtual 194, 0), (53, false, .return_, 0)]
set_option maxRecDepth 20000 in
theorem gx_d56 : ∀ q ∈ gx_t56, decode (gx_code 56) q.1 = .ok (q.2.2.1, gx_len q.2.2.1) ∧ gx_jok q.1 q.2.2.1 q.2.2.2 = true ∧ gx_rok 56 q.2.2.1 = true := by decide +kernel
/-- GreatestFlow.layOutFirstGreatest()V -/
def gx_t57 : List (Nat × Bool × Instr × Nat) := [(0, false, .aload_n 0, 0), (1, false, .iconst 0, 0), (2, false, .invokevirtual 102, 0), (5, false, .astore_n 1, 0), (6, false, .aload_n 0, 0), (7, false, .invokevirtual 162, 0), (10, false, .aload_n 0, 0), (11, false, .getfield 19, 0), (14, false, .aload_n 1, 0), (15, false, .invokevirtual 175, 0), (18, false, .return_, 0)]
set_option maxRecDepth 20000 in
theorem gx_d57 : ∀ q ∈ gx_t57, decode (gx_code 57) q.1 = .ok (q.2.2.1, gx_len q.2.2.1) ∧ gx_jok q.1 q.2.2.1 q.2.2.2 = true ∧ gx_rok 57 q.2.2.1 = true := by decide +kernel
/-- GreatestFlow.helpsAs(II)I -/
def gx_t58 : List (Nat × Bool × Instr × Nat) := [(0, false, .aload_n 0, 0), (1, false, .getfield 12, 0), (4, false, .iload_n 1, 0), (5, false, .invokevirtual 57, 0), (8, false, .ifCond .ne 5, 13), (11, false, .iconst (-1), 0), (12, false, .ireturn, 0), (13, false, .aload_n 0, 0), (14, false, .getfield 12, 0), (17, false, .getfield 61, 0), (20, false, .iload_n 1, 0), (21, false, .iaload, 0), (22, false, .ifCond .eq 6, 28), (25, false, .bipush (-2), 0), (27, false, .ireturn, 0), (28, false, .aload_n 0, 0), (29, false, .invokevirtual 95, 0), (32, false, .ifCond .ne 6, 38), (35, false, .bipush (-3), 0), (37, false, .ireturn, 0), (38, false, .aload_n 0, 0), (39, false, .invokevirtual 122, 0), (42, false, .aload_n 0, 0), (43, false, .iload_n 1, 0), (44, false, .iload_n 2, 0), (45, false, .invokevirtual 198, 0), (48, false, .aload_n 0, 0), (49, false, .getfield 19, 0), (52, false, .bipush 60, 0), (54, false, .iconst 1, 0), (55, false, .invokevirtual 128, 0), (58, false, .ireturn, 0)]
set_option maxRecDepth 20000 in
theorem gx_d58 : ∀ q ∈ gx_t58, decode (gx_code 58) q.1 = .ok (q.2.2.1, gx_len q.2.2.1) ∧ gx_jok q.1 q.2.2.1 q.2.2.2 = true ∧ gx_rok 58 q.2.2.1 = true := by decide +kernel
/-- GreatestFlow.findBarred()V -/
def gx_t59 : List (Nat × Bool × Instr × Nat) := [(0, false, .aload_n 0, 0), (1, false, .invokevirtual 162, 0), (4, false, .aload_n 0, 0), (5, false, .iconst 0, 0), (6, false, .putfield 138, 0), (9, false, .aload_n 0, 0), (10, false, .getfield 12, 0), (13, false, .getfield 72, 0), (16, false, .iconst 1, 0), (17, false, .isub, 0), (18, false, .istore_n 1, 0), (19, true, .iload_n 1, 0), (20, false, .ifCond .lt 73, 93), (23, false, .aload_n 0, 0), (24, false, .getfield 19, 0), (27, false, .getfield 208, 0), (30, false, .iload_n 1, 0), (31, false, .iaload, 0), (32, false, .istore_n 2, 0), (33, false, .iload_n 2, 0), (34, false, .ifCond .le 53, 87), (37, false, .aload_n 0, 0), (38, false, .getfield 19, 0), (41, false, .getfield 208, 0), (44, false, .iload_n 1, 0), (45, false, .iconst 0, 0), (46, false, .iastore, 0), (47, false, .aload_n 0, 0), (48, false, .getfield 19, 0), (51, false, .invokevirtual 165, 0), (54, false, .ifCond .eq 33, 87), (57, false, .aload_n 0, 0), (58, false, .getfield 19, 0), (61, false, .getfield 208, 0), (64, false, .iload_n 1, 0), (65, false, .iload_n 2, 0), (66, false, .iastore, 0), (67, false, .aload_n 0, 0), (68, false, .getfield 43, 0), (71, false, .aload_n 0, 0), (72, false, .getfield 138, 0), (75, false, .iload_n 1, 0), (76, false, .iastore, 0), (77, false, .aload_n 0, 0), (78, false, .dup, 0), (79, false, .getfield 138, 0), (82, false, .iconst 1, 0), (83, false, .iadd, 0), (84, false, .putfield 138, 0), (87, false, .iinc 1 (-1), 0), (90, false, .goto (-71), 19), (93, false, .aload_n 0, 0), (94, false, .iconst 1, 0), (95, false, .putfield 131, 0), (98, false, .return_, 0)]
set_option maxRecDepth 20000 in
theorem gx_d59 : ∀ q ∈ gx_t59, decode (gx_code 59) q.1 = .ok (q.2.2.1, gx_len q.2.2.1) ∧ gx_jok q.1 q.2.2.1 q.2.2.2 = true ∧ gx_rok 59 q.2.2.1 = true := by decide +kernel
/-- GreatestFlow.splitFirstGreatest()V -/
def gx_t60 : List (Nat × Bool × Instr × Nat) := [(0, false, .aload_n 0, 0), (1, false, .getfield 159, 0), (4, false, .ifCond .ne 24, 28), (7, false, .aload_n 0, 0), (8, false, .getfield 26, 0), (11, false, .aload_n 0, 0), (12, false, .getfield 12, 0), (15, false, .aload_n 0, 0), (16, false, .iconst 0, 0), (17, false, .invokevirtual 102, 0), (20, false, .invokevirtual 211, 0), (23, false, .aload_n 0, 0), (24, false, .iconst 1, 0), (25, false, .putfield 159, 0), (28, false, .return_, 0)]
set_option maxRecDepth 20000 in
theorem gx_d60 : ∀ q ∈ gx_t60, decode (gx_code 60) q.1 = .ok (q.2.2.1, gx_len q.2.2.1) ∧ gx_jok q.1 q.2.2.1 q.2.2.2 = true ∧ gx_rok 60 q.2.2.1 = true := by decide +kernel
/-- GreatestFlowModel.edge(IIII)V -/
def gx_t61 : List (Nat × Bool × Instr × Nat) := [(0, false, .aload_n 0, 0), (1, false, .getfield 41, 0), (4, false, .bipush 24, 0), (6, false, .iload_n 1, 0), (7, false, .imul, 0), (8, false, .iload_n 2, 0), (9, false, .iadd, 0), (10, false, .dup2, 0), (11, false, .iaload, 0), (12, false, .iload 4, 0), (14, false, .iload_n 3, 0), (15, false, .isub, 0), (16, false, .iadd, 0), (17, false, .iastore, 0), (18, false, .iload_n 3, 0), (19, false, .ifCond .le 43, 62), (22, false, .aload_n 0, 0), (23, false, .getfield 41, 0), (26, false, .sipush 528, 0), (29, false, .iload_n 2, 0), (30, false, .iadd, 0), (31, false, .dup2, 0), (32, false, .iaload, 0), (33, false, .iload_n 3, 0), (34, false, .iadd, 0), (35, false, .iastore, 0), (36, false, .aload_n 0, 0), (37, false, .getfield 41, 0), (40, false, .bipush 24, 0), (42, false, .iload_n 1, 0), (43, false, .imul, 0), (44, false, .bipush 23, 0), (46, false, .iadd, 0), (47, false, .dup2, 0), (48, false, .iaload, 0), (49, false, .iload_n 3, 0), (50, false, .iadd, 0), (51, false, .iastore, 0), (52, false, .aload_n 0, 0), (53, false, .dup, 0), (54, false, .getfield 80, 0), (57, false, .iload_n 3, 0), (58, false, .iadd, 0), (59, false, .putfield 80, 0), (62, false, .return_, 0)]
set_option maxRecDepth 20000 in
theorem gx_d61 : ∀ q ∈ gx_t61, decode (gx_code 61) q.1 = .ok (q.2.2.1, gx_len q.2.2.1) ∧ gx_jok q.1 q.2.2.1 q.2.2.2 = true ∧ gx_rok 61 q.2.2.1 = true := by decide +kernel
/-- GreatestFlowModel.layOut(II)V -/
def gx_t62 : List (Nat × Bool × Instr × Nat) := [(0, false, .iconst 0, 0), (1, false, .istore_n 3, 0), (2, true, .iload_n 3, 0), (3, false, .sipush 576, 0), (6, false, .if_icmp .ge 16, 22), (9, false, .aload_n 0, 0), (10, false, .getfield 41, 0), (13, false, .iload_n 3, 0), (14, false, .iconst 0, 0), (15, false, .iastore, 0), (16, false, .iinc 3 1, 0), (19, false, .goto (-17), 2), (22, false, .aload_n 0, 0), (23, false, .iconst 0, 0), (24, false, .putfield 80, 0), (27, false, .iconst 0, 0), (28, false, .istore_n 3, 0), (29, true, .iload_n 3, 0), (30, false, .aload_n 0, 0), (31, false, .getfield 84, 0), (34, false, .if_icmp .ge 52, 86), (37, false, .aload_n 0, 0), (38, false, .getfield 28, 0), (41, false, .iload_n 3, 0), (42, false, .baload, 0), (43, false, .ifCond .eq 37, 80), (46, false, .aload_n 0, 0), (47, false, .iconst 2, 0), (48, false, .aload_n 0, 0), (49, false, .getfield 16, 0), (52, false, .iload_n 3, 0), (53, false, .iaload, 0), (54, false, .imul, 0), (55, false, .iconst 1, 0), (56, false, .iadd, 0), (57, false, .iconst 2, 0), (58, false, .aload_n 0, 0), (59, false, .getfield 19, 0), (62, false, .iload_n 3, 0), (63, false, .iaload, 0), (64, false, .imul, 0), (65, false, .aload_n 0, 0), (66, false, .getfield 32, 0), (69, false, .iload_n 3, 0), (70, false, .iaload, 0), (71, false, .aload_n 0, 0), (72, false, .getfield 35, 0), (75, false, .iload_n 3, 0), (76, false, .iaload, 0), (77, false, .invokevirtual 87, 0), (80, false, .iinc 3 1, 0), (83, false, .goto (-54), 29), (86, false, .iconst 0, 0), (87, false, .istore_n 3, 0), (88, true, .iload_n 3, 0), (89, false, .aload_n 0, 0), (90, false, .getfield 91, 0), (93, false, .if_icmp .ge 88, 181), (96, false, .aload_n 0, 0), (97, false, .iconst 2, 0), (98, false, .iload_n 3, 0), (99, false, .imul, 0), (100, false, .iconst 2, 0), (101, false, .iload_n 3, 0), (102, false, .imul, 0), (103, false, .iconst 1, 0), (104, false, .iadd, 0), (105, false, .iconst 0, 0), (106, false, .aload_n 0, 0), (107, false, .getfield 13, 0), (110, false, .iload_n 3, 0), (111, false, .iaload, 0), (112, false, .ifCond .ge 8, 120), (115, false, .ldc 94, 0), (117, false, .goto 9, 126), (120, false, .aload_n 0, 0), (121, false, .getfield 13, 0), (124, false, .iload_n 3, 0), (125, false, .iaload, 0), (126, false, .invokevirtual 87, 0), (129, false, .aload_n 0, 0), (130, false, .getfield 38, 0), (133, false, .iload_n 3, 0), (134, false, .iaload, 0), (135, false, .iconst 1, 0), (136, false, .if_icmp .ne 15, 151), (139, false, .aload_n 0, 0), (140, false, .bipush 20, 0), (142, false, .iconst 2, 0), (143, false, .iload_n 3, 0), (144, false, .imul, 0), (145, false, .iconst 0, 0), (146, false, .ldc 94, 0), (148, false, .invokevirtual 87, 0), (151, false, .aload_n 0, 0), (152, false, .getfield 38, 0), (155, false, .iload_n 3, 0), (156, false, .iaload, 0), (157, false, .iconst 2, 0), (158, false, .if_icmp .ne 17, 175), (161, false, .aload_n 0, 0), (162, false, .iconst 2, 0), (163, false, .iload_n 3, 0), (164, false, .imul, 0), (165, false, .iconst 1, 0), (166, false, .iadd, 0), (167, false, .bipush 21, 0), (169, false, .iconst 0, 0), (170, false, .ldc 94, 0), (172, false, .invokevirtual 87, 0), (175, false, .iinc 3 1, 0), (178, false, .goto (-90), 88), (181, false, .aload_n 0, 0), (182, false, .bipush 21, 0), (184, false, .bipush 20, 0), (186, false, .iload_n 1, 0), (187, false, .iload_n 2, 0), (188, false, .invokevirtual 87, 0), (191, false, .return_, 0)]
set_option maxRecDepth 20000 in
theorem gx_d62 : ∀ q ∈ gx_t62, decode (gx_code 62) q.1 = .ok (q.2.2.1, gx_len q.2.2.1) ∧ gx_jok q.1 q.2.2.1 q.2.2.2 = true ∧ gx_rok 62 q.2.2.1 = true := by decide +kernel
/-- GreatestFlowModel.findWay()Z -/
def gx_t63 : List (Nat × Bool × Instr × Nat) := [(0, false, .iconst 0, 0), (1, false, .istore_n 1, 0), (2, true, .iload_n 1, 0), (3, false, .bipush 24, 0), (5, false, .if_icmp .ge 16, 21), (8, false, .aload_n 0, 0), (9, false, .getfield 44, 0), (12, false, .iload_n 1, 0), (13, false, .iconst (-1), 0), (14, false, .iastore, 0), (15, false, .iinc 1 1, 0), (18, false, .goto (-16), 2), (21, false, .aload_n 0, 0), (22, false, .getfield 44, 0), (25, false, .bipush 22, 0), (27, false, .bipush 22, 0), (29, false, .iastore, 0), (30, false, .aload_n 0, 0), (31, false, .getfield 47, 0), (34, false, .iconst 0, 0), (35, false, .bipush 22, 0), (37, false, .iastore, 0), (38, false, .iconst 0, 0), (39, false, .istore_n 1, 0), (40, false, .iconst 1, 0), (41, false, .istore_n 2, 0), (42, true, .iload_n 1, 0), (43, false, .iload_n 2, 0), (44, false, .if_icmp .ge 86, 130), (47, false, .aload_n 0, 0), (48, false, .getfield 44, 0), (51, false, .bipush 23, 0), (53, false, .iaload, 0), (54, false, .ifCond .ge 76, 130), (57, false, .aload_n 0, 0), (58, false, .getfield 47, 0), (61, false, .iload_n 1, 0), (62, false, .iaload, 0), (63, false, .istore_n 3, 0), (64, false, .iinc 1 1, 0), (67, false, .iconst 0, 0), (68, false, .istore 4, 0), (70, true, .iload 4, 0), (72, false, .bipush 24, 0), (74, false, .if_icmp .ge 53, 127), (77, false, .aload_n 0, 0), (78, false, .getfield 44, 0), (81, false, .iload 4, 0), (83, false, .iaload, 0), (84, false, .ifCond .ge 37, 121), (87, false, .aload_n 0, 0), (88, false, .getfield 41, 0), (91, false, .bipush 24, 0), (93, false, .iload_n 3, 0), (94, false, .imul, 0), (95, false, .iload 4, 0), (97, false, .iadd, 0), (98, false, .iaload, 0), (99, false, .ifCond .le 22, 121), (102, false, .aload_n 0, 0), (103, false, .getfield 44, 0), (106, false, .iload 4, 0), (108, false, .iload_n 3, 0), (109, false, .iastore, 0), (110, false, .aload_n 0, 0), (111, false, .getfield 47, 0), (114, false, .iload_n 2, 0), (115, false, .iload 4, 0), (117, false, .iastore, 0), (118, false, .iinc 2 1, 0), (121, false, .iinc 4 1, 0), (124, false, .goto (-54), 70), (127, false, .goto (-85), 42), (130, false, .aload_n 0, 0), (131, false, .getfield 44, 0), (134, false, .bipush 23, 0), (136, false, .iaload, 0), (137, false, .ifCond .lt 7, 144), (140, false, .iconst 1, 0), (141, false, .goto 4, 145), (144, false, .iconst 0, 0), (145, false, .ireturn, 0)]
set_option maxRecDepth 20000 in
theorem gx_d63 : ∀ q ∈ gx_t63, decode (gx_code 63) q.1 = .ok (q.2.2.1, gx_len q.2.2.1) ∧ gx_jok q.1 q.2.2.1 q.2.2.2 = true ∧ gx_rok 63 q.2.2.1 = true := by decide +kernel
/-- GreatestFlowModel.isThere(II)Z -/
def gx_t64 : List (Nat × Bool × Instr × Nat) := [(0, false, .aload_n 0, 0), (1, false, .iload_n 1, 0), (2, false, .iload_n 2, 0), (3, false, .invokevirtual 95, 0), (6, false, .iconst 0, 0), (7, false, .istore_n 3, 0), (8, true, .aload_n 0, 0), (9, false, .invokevirtual 99, 0), (12, false, .ifCond .eq 155, 167), (15, false, .ldc 94, 0), (17, false, .istore 4, 0), (19, false, .bipush 23, 0), (21, false, .istore 5, 0), (23, true, .iload 5, 0), (25, false, .bipush 22, 0), (27, false, .if_icmp .eq 63, 90), (30, false, .aload_n 0, 0), (31, false, .getfield 41, 0), (34, false, .bipush 24, 0), (36, false, .aload_n 0, 0), (37, false, .getfield 44, 0), (40, false, .iload 5, 0), (42, false, .iaload, 0), (43, false, .imul, 0), (44, false, .iload 5, 0), (46, false, .iadd, 0), (47, false, .iaload, 0), (48, false, .iload 4, 0), (50, false, .if_icmp .ge 24, 74), (53, false, .aload_n 0, 0), (54, false, .getfield 41, 0), (57, false, .bipush 24, 0), (59, false, .aload_n 0, 0), (60, false, .getfield 44, 0), (63, false, .iload 5, 0), (65, false, .iaload, 0), (66, false, .imul, 0), (67, false, .iload 5, 0), (69, false, .iadd, 0), (70, false, .iaload, 0), (71, false, .goto 5, 76), (74, false, .iload 4, 0), (76, false, .istore 4, 0), (78, false, .aload_n 0, 0), (79, false, .getfield 44, 0), (82, false, .iload 5, 0), (84, false, .iaload, 0), (85, false, .istore 5, 0), (87, false, .goto (-64), 23), (90, false, .bipush 23, 0), (92, false, .istore 5, 0), (94, true, .iload 5, 0), (96, false, .bipush 22, 0), (98, false, .if_icmp .eq 61, 159), (101, false, .aload_n 0, 0), (102, false, .getfield 41, 0), (105, false, .bipush 24, 0), (107, false, .aload_n 0, 0), (108, false, .getfield 44, 0), (111, false, .iload 5, 0), (113, false, .iaload, 0), (114, false, .imul, 0), (115, false, .iload 5, 0), (117, false, .iadd, 0), (118, false, .dup2, 0), (119, false, .iaload, 0), (120, false, .iload 4, 0), (122, false, .isub, 0), (123, false, .iastore, 0), (124, false, .aload_n 0, 0), (125, false, .getfield 41, 0), (128, false, .bipush 24, 0), (130, false, .iload 5, 0), (132, false, .imul, 0), (133, false, .aload_n 0, 0), (134, false, .getfield 44, 0), (137, false, .iload 5, 0), (139, false, .iaload, 0), (140, false, .iadd, 0), (141, false, .dup2, 0), (142, false, .iaload, 0), (143, false, .iload 4, 0), (145, false, .iadd, 0), (146, false, .iastore, 0), (147, false, .aload_n 0, 0), (148, false, .getfield 44, 0), (151, false, .iload 5, 0), (153, false, .iaload, 0), (154, false, .istore 5, 0), (156, false, .goto (-62), 94), (159, false, .iload_n 3, 0), (160, false, .iload 4, 0), (162, false, .iadd, 0), (163, false, .istore_n 3, 0), (164, false, .goto (-156), 8), (167, false, .iload_n 3, 0), (168, false, .aload_n 0, 0), (169, false, .getfield 80, 0), (172, false, .if_icmp .ne 7, 179), (175, false, .iconst 1, 0), (176, false, .goto 4, 180), (179, false, .iconst 0, 0), (180, false, .ireturn, 0)]
set_option maxRecDepth 20000 in
theorem gx_d64 : ∀ q ∈ gx_t64, decode (gx_code 64) q.1 = .ok (q.2.2.1, gx_len q.2.2.1) ∧ gx_jok q.1 q.2.2.1 q.2.2.2 = true ∧ gx_rok 64 q.2.2.1 = true := by decide +kernel
/-- GreatestFlowModel.take()V -/
def gx_t65 : List (Nat × Bool × Instr × Nat) := [(0, false, .iconst 0, 0), (1, false, .istore_n 1, 0), (2, true, .iload_n 1, 0), (3, false, .aload_n 0, 0), (4, false, .getfield 84, 0), (7, false, .if_icmp .ge 33, 40), (10, false, .aload_n 0, 0), (11, false, .getfield 32, 0), (14, false, .iload_n 1, 0), (15, false, .aload_n 0, 0), (16, false, .getfield 22, 0), (19, false, .iload_n 1, 0), (20, false, .iaload, 0), (21, false, .iastore, 0), (22, false, .aload_n 0, 0), (23, false, .getfield 35, 0), (26, false, .iload_n 1, 0), (27, false, .aload_n 0, 0), (28, false, .getfield 25, 0), (31, false, .iload_n 1, 0), (32, false, .iaload, 0), (33, false, .iastore, 0), (34, false, .iinc 1 1, 0), (37, false, .goto (-35), 2), (40, false, .iconst 0, 0), (41, false, .istore_n 1, 0), (42, true, .iload_n 1, 0), (43, false, .aload_n 0, 0), (44, false, .getfield 91, 0), (47, false, .if_icmp .ge 21, 68), (50, false, .aload_n 0, 0), (51, false, .getfield 38, 0), (54, false, .iload_n 1, 0), (55, false, .aload_n 0, 0), (56, false, .getfield 7, 0), (59, false, .iload_n 1, 0), (60, false, .iaload, 0), (61, false, .iastore, 0), (62, false, .iinc 1 1, 0), (65, false, .goto (-23), 42), (68, false, .return_, 0)]
set_option maxRecDepth 20000 in
theorem gx_d65 : ∀ q ∈ gx_t65, decode (gx_code 65) q.1 = .ok (q.2.2.1, gx_len q.2.2.1) ∧ gx_jok q.1 q.2.2.1 q.2.2.2 = true ∧ gx_rok 65 q.2.2.1 = true := by decide +kernel
/-- GreatestFlowModel.greatest()I -/
def gx_t66 : List (Nat × Bool × Instr × Nat) := [(0, false, .iconst 0, 0), (1, false, .istore_n 1, 0), (2, false, .ldc 94, 0), (4, false, .istore_n 2, 0), (5, true, .iload_n 2, 0), (6, false, .iload_n 1, 0), (7, false, .isub, 0), (8, false, .iconst 1, 0), (9, false, .if_icmp .le 29, 38), (12, false, .iload_n 1, 0), (13, false, .iload_n 2, 0), (14, false, .iadd, 0), (15, false, .iconst 2, 0), (16, false, .idiv, 0), (17, false, .istore_n 3, 0), (18, false, .aload_n 0, 0), (19, false, .iload_n 3, 0), (20, false, .ldc 94, 0), (22, false, .invokevirtual 103, 0), (25, false, .ifCond .eq 8, 33), (28, false, .iload_n 3, 0), (29, false, .istore_n 1, 0), (30, false, .goto 5, 35), (33, false, .iload_n 3, 0), (34, false, .istore_n 2, 0), (35, false, .goto (-30), 5), (38, false, .iload_n 1, 0), (39, false, .ireturn, 0)]
set_option maxRecDepth 20000 in
theorem gx_d66 : ∀ q ∈ gx_t66, decode (gx_code 66) q.1 = .ok (q.2.2.1, gx_len q.2.2.1) ∧ gx_jok q.1 q.2.2.1 q.2.2.2 = true ∧ gx_rok 66 q.2.2.1 = true := by decide +kernel
/-- GreatestFlowModel.lowest()I -/
def gx_t67 : List (Nat × Bool × Instr × Nat) := [(0, false, .iconst (-1), 0), (1, false, .istore_n 1, 0), (2, false, .ldc 94, 0), (4, false, .istore_n 2, 0), (5, true, .iload_n 2, 0), (6, false, .iload_n 1, 0), (7, false, .isub, 0), (8, false, .iconst 1, 0), (9, false, .if_icmp .le 28, 37), (12, false, .iload_n 1, 0), (13, false, .iload_n 2, 0), (14, false, .iadd, 0), (15, false, .iconst 2, 0), (16, false, .idiv, 0), (17, false, .istore_n 3, 0), (18, false, .aload_n 0, 0), (19, false, .iconst 0, 0), (20, false, .iload_n 3, 0), (21, false, .invokevirtual 103, 0), (24, false, .ifCond .eq 8, 32), (27, false, .iload_n 3, 0), (28, false, .istore_n 2, 0), (29, false, .goto 5, 34), (32, false, .iload_n 3, 0), (33, false, .istore_n 1, 0), (34, false, .goto (-29), 5), (37, false, .iload_n 2, 0), (38, false, .ireturn, 0)]
set_option maxRecDepth 20000 in
theorem gx_d67 : ∀ q ∈ gx_t67, decode (gx_code 67) q.1 = .ok (q.2.2.1, gx_len q.2.2.1) ∧ gx_jok q.1 q.2.2.1 q.2.2.2 = true ∧ gx_rok 67 q.2.2.1 = true := by decide +kernel
/-- GreatestFlowModel.findFirst(I)V -/
def gx_t68 : List (Nat × Bool × Instr × Nat) := [(0, false, .aload_n 0, 0), (1, false, .invokevirtual 107, 0), (4, false, .aload_n 0, 0), (5, false, .getfield 50, 0), (8, false, .iload_n 1, 0), (9, false, .iload_n 1, 0), (10, false, .ifCond .ne 10, 20), (13, false, .aload_n 0, 0), (14, false, .invokevirtual 110, 0), (17, false, .goto 7, 24), (20, false, .aload_n 0, 0), (21, false, .invokevirtual 114, 0), (24, false, .iastore, 0), (25, false, .iconst 0, 0), (26, false, .istore_n 2, 0), (27, true, .iload_n 2, 0), (28, false, .aload_n 0, 0), (29, false, .getfield 84, 0), (32, false, .if_icmp .ge 123, 155), (35, false, .aload_n 0, 0), (36, false, .getfield 28, 0), (39, false, .iload_n 2, 0), (40, false, .baload, 0), (41, false, .ifCond .ne 6, 47), (44, false, .goto 105, 149), (47, false, .aload_n 0, 0), (48, false, .getfield 32, 0), (51, false, .iload_n 2, 0), (52, false, .iaload, 0), (53, false, .iconst 1, 0), (54, false, .isub, 0), (55, false, .istore_n 3, 0), (56, false, .aload_n 0, 0), (57, false, .getfield 35, 0), (60, false, .iload_n 2, 0), (61, false, .iaload, 0), (62, false, .istore 4, 0), (64, true, .iload 4, 0), (66, false, .iload_n 3, 0), (67, false, .isub, 0), (68, false, .iconst 1, 0), (69, false, .if_icmp .le 51, 120), (72, false, .iload_n 3, 0), (73, false, .iload 4, 0), (75, false, .iadd, 0), (76, false, .iconst 2, 0), (77, false, .idiv, 0), (78, false, .istore 5, 0), (80, false, .aload_n 0, 0), (81, false, .getfield 35, 0), (84, false, .iload_n 2, 0), (85, false, .iload 5, 0), (87, false, .iastore, 0), (88, false, .aload_n 0, 0), (89, false, .aload_n 0, 0), (90, false, .getfield 50, 0), (93, false, .iload_n 1, 0), (94, false, .iaload, 0), (95, false, .aload_n 0, 0), (96, false, .getfield 50, 0), (99, false, .iload_n 1, 0), (100, false, .iaload, 0), (101, false, .invokevirtual 103, 0), (104, false, .ifCond .eq 10, 114), (107, false, .iload 5, 0), (109, false, .istore 4, 0), (111, false, .goto 6, 117), (114, false, .iload 5, 0), (116, false, .istore_n 3, 0), (117, false, .goto (-53), 64), (120, false, .aload_n 0, 0), (121, false, .getfield 32, 0), (124, false, .iload_n 2, 0), (125, false, .iload 4, 0), (127, false, .iastore, 0), (128, false, .aload_n 0, 0), (129, false, .getfield 35, 0), (132, false, .iload_n 2, 0), (133, false, .iload 4, 0), (135, false, .iastore, 0), (136, false, .aload_n 0, 0), (137, false, .getfield 53, 0), (140, false, .bipush 40, 0), (142, false, .iload_n 1, 0), (143, false, .imul, 0), (144, false, .iload_n 2, 0), (145, false, .iadd, 0), (146, false, .iload 4, 0), (148, false, .iastore, 0), (149, false, .iinc 2 1, 0), (152, false, .goto (-125), 27), (155, false, .return_, 0)]
set_option maxRecDepth 20000 in
theorem gx_d68 : ∀ q ∈ gx_t68, decode (gx_code 68) q.1 = .ok (q.2.2.1, gx_len q.2.2.1) ∧ gx_jok q.1 q.2.2.1 q.2.2.2 = true ∧ gx_rok 68 q.2.2.1 = true := by decide +kernel
/-- GreatestFlowModel.findBarred()V -/
def gx_t69 : List (Nat × Bool × Instr × Nat) := [(0, false, .aload_n 0, 0), (1, false, .invokevirtual 107, 0), (4, false, .aload_n 0, 0), (5, false, .getfield 84, 0), (8, false, .iconst 1, 0), (9, false, .isub, 0), (10, false, .istore_n 1, 0), (11, true, .iload_n 1, 0), (12, false, .ifCond .lt 73, 85), (15, false, .aload_n 0, 0), (16, false, .getfield 56, 0), (19, false, .iload_n 1, 0), (20, false, .iconst 0, 0), (21, false, .bastore, 0), (22, false, .aload_n 0, 0), (23, false, .getfield 28, 0), (26, false, .iload_n 1, 0), (27, false, .baload, 0), (28, false, .ifCond .eq 51, 79), (31, false, .aload_n 0, 0), (32, false, .getfield 22, 0), (35, false, .iload_n 1, 0), (36, false, .iaload, 0), (37, false, .ifCond .ne 6, 43), (40, false, .goto 39, 79), (43, false, .aload_n 0, 0), (44, false, .getfield 32, 0), (47, false, .iload_n 1, 0), (48, false, .iconst 0, 0), (49, false, .iastore, 0), (50, false, .aload_n 0, 0), (51, false, .iconst 0, 0), (52, false, .ldc 94, 0), (54, false, .invokevirtual 103, 0), (57, false, .ifCond .eq 22, 79), (60, false, .aload_n 0, 0), (61, false, .getfield 32, 0), (64, false, .iload_n 1, 0), (65, false, .aload_n 0, 0), (66, false, .getfield 22, 0), (69, false, .iload_n 1, 0), (70, false, .iaload, 0), (71, false, .iastore, 0), (72, false, .aload_n 0, 0), (73, false, .getfield 56, 0), (76, false, .iload_n 1, 0), (77, false, .iconst 1, 0), (78, false, .bastore, 0), (79, false, .iinc 1 (-1), 0), (82, false, .goto (-71), 11), (85, false, .return_, 0)]
set_option maxRecDepth 20000 in
theorem gx_d69 : ∀ q ∈ gx_t69, decode (gx_code 69) q.1 = .ok (q.2.2.1, gx_len q.2.2.1) ∧ gx_jok q.1 q.2.2.1 q.2.2.2 = true ∧ gx_rok 69 q.2.2.1 = true := by decide +kernel
/-- GreatestFlowModel.know()V -/
def gx_t70 : List (Nat × Bool × Instr × Nat) := [(0, false, .aload_n 0, 0), (1, false, .getfield 117, 0), (4, false, .ifCond .eq 4, 8), (7, false, .return_, 0), (8, false, .aload_n 0, 0), (9, false, .iconst 1, 0), (10, false, .putfield 117, 0), (13, false, .aload_n 0, 0), (14, false, .invokevirtual 107, 0), (17, false, .aload_n 0, 0), (18, false, .aload_n 0, 0), (19, false, .iconst 0, 0), (20, false, .ldc 94, 0), (22, false, .invokevirtual 103, 0), (25, false, .putfield 121, 0), (28, false, .aload_n 0, 0), (29, false, .getfield 121, 0), (32, false, .ifCond .eq 20, 52), (35, false, .aload_n 0, 0), (36, false, .iconst 0, 0), (37, false, .invokevirtual 124, 0), (40, false, .aload_n 0, 0), (41, false, .iconst 1, 0), (42, false, .invokevirtual 124, 0), (45, false, .aload_n 0, 0), (46, false, .invokevirtual 128, 0), (49, false, .goto 7, 56), (52, false, .aload_n 0, 0), (53, false, .invokevirtual 131, 0), (56, false, .return_, 0)]
set_option maxRecDepth 20000 in
theorem gx_d70 : ∀ q ∈ gx_t70, decode (gx_code 70) q.1 = .ok (q.2.2.1, gx_len q.2.2.1) ∧ gx_jok q.1 q.2.2.1 q.2.2.2 = true ∧ gx_rok 70 q.2.2.1 = true := by decide +kernel
/-- GreatestFlowModel.comes(II)I -/
def gx_t71 : List (Nat × Bool × Instr × Nat) := [(0, false, .iconst 0, 0), (1, false, .istore_n 3, 0), (2, false, .iconst 0, 0), (3, false, .istore 4, 0), (5, true, .iload 4, 0), (7, false, .aload_n 0, 0), (8, false, .getfield 84, 0), (11, false, .if_icmp .ge 49, 60), (14, false, .iload_n 3, 0), (15, false, .aload_n 0, 0), (16, false, .getfield 28, 0), (19, false, .iload 4, 0), (21, false, .baload, 0), (22, false, .ifCond .eq 29, 51), (25, false, .aload_n 0, 0), (26, false, .getfield 19, 0), (29, false, .iload 4, 0), (31, false, .iaload, 0), (32, false, .iload_n 2, 0), (33, false, .if_icmp .ne 18, 51), (36, false, .aload_n 0, 0), (37, false, .getfield 53, 0), (40, false, .bipush 40, 0), (42, false, .iload_n 1, 0), (43, false, .imul, 0), (44, false, .iload 4, 0), (46, false, .iadd, 0), (47, false, .iaload, 0), (48, false, .goto 4, 52), (51, false, .iconst 0, 0), (52, false, .iadd, 0), (53, false, .istore_n 3, 0), (54, false, .iinc 4 1, 0), (57, false, .goto (-52), 5), (60, false, .iload_n 3, 0), (61, false, .ireturn, 0)]
set_option maxRecDepth 20000 in
theorem gx_d71 : ∀ q ∈ gx_t71, decode (gx_code 71) q.1 = .ok (q.2.2.1, gx_len q.2.2.1) ∧ gx_jok q.1 q.2.2.1 q.2.2.2 = true ∧ gx_rok 71 q.2.2.1 = true := by decide +kernel
/-- GreatestFlowModel.goes(II)I -/
def gx_t72 : List (Nat × Bool × Instr × Nat) := [(0, false, .iconst 0, 0), (1, false, .istore_n 3, 0), (2, false, .iconst 0, 0), (3, false, .istore 4, 0), (5, true, .iload 4, 0), (7, false, .aload_n 0, 0), (8, false, .getfield 84, 0), (11, false, .if_icmp .ge 49, 60), (14, false, .iload_n 3, 0), (15, false, .aload_n 0, 0), (16, false, .getfield 28, 0), (19, false, .iload 4, 0), (21, false, .baload, 0), (22, false, .ifCond .eq 29, 51), (25, false, .aload_n 0, 0), (26, false, .getfield 16, 0), (29, false, .iload 4, 0), (31, false, .iaload, 0), (32, false, .iload_n 2, 0), (33, false, .if_icmp .ne 18, 51), (36, false, .aload_n 0, 0), (37, false, .getfield 53, 0), (40, false, .bipush 40, 0), (42, false, .iload_n 1, 0), (43, false, .imul, 0), (44, false, .iload 4, 0), (46, false, .iadd, 0), (47, false, .iaload, 0), (48, false, .goto 4, 52), (51, false, .iconst 0, 0), (52, false, .iadd, 0), (53, false, .istore_n 3, 0), (54, false, .iinc 4 1, 0), (57, false, .goto (-52), 5), (60, false, .iload_n 3, 0), (61, false, .ireturn, 0)]
set_option maxRecDepth 20000 in
theorem gx_d72 : ∀ q ∈ gx_t72, decode (gx_code 72) q.1 = .ok (q.2.2.1, gx_len q.2.2.1) ∧ gx_jok q.1 q.2.2.1 q.2.2.2 = true ∧ gx_rok 72 q.2.2.1 = true := by decide +kernel
/-- GreatestFlowModel.nextArc(I)I -/
def gx_t73 : List (Nat × Bool × Instr × Nat) := [(0, false, .iconst 0, 0), (1, false, .istore_n 2, 0), (2, true, .aload_n 0, 0), (3, false, .getfield 28, 0), (6, false, .iload_n 2, 0), (7, false, .baload, 0), (8, false, .ifCond .eq 22, 30), (11, false, .aload_n 0, 0), (12, false, .getfield 16, 0), (15, false, .iload_n 2, 0), (16, false, .iaload, 0), (17, false, .iload_n 1, 0), (18, false, .if_icmp .ne 12, 30), (21, false, .aload_n 0, 0), (22, false, .getfield 68, 0), (25, false, .iload_n 2, 0), (26, false, .iaload, 0), (27, false, .ifCond .ne 9, 36), (30, false, .iinc 2 1, 0), (33, false, .goto (-31), 2), (36, false, .iload_n 2, 0), (37, false, .ireturn, 0)]
set_option maxRecDepth 20000 in
theorem gx_d73 : ∀ q ∈ gx_t73, decode (gx_code 73) q.1 = .ok (q.2.2.1, gx_len q.2.2.1) ∧ gx_jok q.1 q.2.2.1 q.2.2.2 = true ∧ gx_rok 73 q.2.2.1 = true := by decide +kernel
/-- GreatestFlowModel.leastOf(II)I -/
def gx_t74 : List (Nat × Bool × Instr × Nat) := [(0, false, .ldc 94, 0), (2, false, .istore_n 3, 0), (3, false, .iload_n 1, 0), (4, false, .istore 4, 0), (6, true, .iload 4, 0), (8, false, .iload_n 2, 0), (9, false, .if_icmp .ge 42, 51), (12, false, .aload_n 0, 0), (13, false, .getfield 68, 0), (16, false, .aload_n 0, 0), (17, false, .getfield 74, 0), (20, false, .iload 4, 0), (22, false, .iaload, 0), (23, false, .iaload, 0), (24, false, .iload_n 3, 0), (25, false, .if_icmp .ge 18, 43), (28, false, .aload_n 0, 0), (29, false, .getfield 68, 0), (32, false, .aload_n 0, 0), (33, false, .getfield 74, 0), (36, false, .iload 4, 0), (38, false, .iaload, 0), (39, false, .iaload, 0), (40, false, .goto 4, 44), (43, false, .iload_n 3, 0), (44, false, .istore_n 3, 0), (45, false, .iinc 4 1, 0), (48, false, .goto (-42), 6), (51, false, .iload_n 3, 0), (52, false, .ireturn, 0)]
set_option maxRecDepth 20000 in
theorem gx_d74 : ∀ q ∈ gx_t74, decode (gx_code 74) q.1 = .ok (q.2.2.1, gx_len q.2.2.1) ∧ gx_jok q.1 q.2.2.1 q.2.2.2 = true ∧ gx_rok 74 q.2.2.1 = true := by decide +kernel
/-- GreatestFlowModel.lessen(III)V -/
def gx_t75 : List (Nat × Bool × Instr × Nat) := [(0, false, .iload_n 1, 0), (1, false, .istore 4, 0), (3, true, .iload 4, 0), (5, false, .iload_n 2, 0), (6, false, .if_icmp .ge 25, 31), (9, false, .aload_n 0, 0), (10, false, .getfield 68, 0), (13, false, .aload_n 0, 0), (14, false, .getfield 74, 0), (17, false, .iload 4, 0), (19, false, .iaload, 0), (20, false, .dup2, 0), (21, false, .iaload, 0), (22, false, .iload_n 3, 0), (23, false, .isub, 0), (24, false, .iastore, 0), (25, false, .iinc 4 1, 0), (28, false, .goto (-25), 3), (31, false, .return_, 0)]
set_option maxRecDepth 20000 in
theorem gx_d75 : ∀ q ∈ gx_t75, decode (gx_code 75) q.1 = .ok (q.2.2.1, gx_len q.2.2.1) ∧ gx_jok q.1 q.2.2.1 q.2.2.2 = true ∧ gx_rok 75 q.2.2.1 = true := by decide +kernel
/-- GreatestFlowModel.findStreams()V -/
def gx_t76 : List (Nat × Bool × Instr × Nat) := [(0, false, .aload_n 0, 0), (1, false, .iconst 0, 0), (2, false, .putfield 134, 0), (5, false, .iconst 0, 0), (6, false, .istore_n 1, 0), (7, true, .iload_n 1, 0), (8, false, .aload_n 0, 0), (9, false, .getfield 84, 0), (12, false, .if_icmp .ge 34, 46), (15, false, .aload_n 0, 0), (16, false, .getfield 68, 0), (19, false, .iload_n 1, 0), (20, false, .aload_n 0, 0), (21, false, .getfield 28, 0), (24, false, .iload_n 1, 0), (25, false, .baload, 0), (26, false, .ifCond .eq 12, 38), (29, false, .aload_n 0, 0), (30, false, .getfield 53, 0), (33, false, .iload_n 1, 0), (34, false, .iaload, 0), (35, false, .goto 4, 39), (38, false, .iconst 0, 0), (39, false, .iastore, 0), (40, false, .iinc 1 1, 0), (43, false, .goto (-36), 7), (46, false, .iconst 0, 0), (47, false, .istore_n 1, 0), (48, true, .iload_n 1, 0), (49, false, .aload_n 0, 0), (50, false, .getfield 91, 0), (53, false, .if_icmp .ge 68, 121), (56, false, .aload_n 0, 0), (57, false, .getfield 71, 0), (60, false, .iload_n 1, 0), (61, false, .aload_n 0, 0), (62, false, .getfield 7, 0), (65, false, .iload_n 1, 0), (66, false, .iaload, 0), (67, false, .iconst 1, 0), (68, false, .if_icmp .ne 19, 87), (71, false, .aload_n 0, 0), (72, false, .iconst 0, 0), (73, false, .iload_n 1, 0), (74, false, .invokevirtual 137, 0), (77, false, .aload_n 0, 0), (78, false, .iconst 0, 0), (79, false, .iload_n 1, 0), (80, false, .invokevirtual 141, 0), (83, false, .isub, 0), (84, false, .goto 30, 114), (87, false, .aload_n 0, 0), (88, false, .getfield 7, 0), (91, false, .iload_n 1, 0), (92, false, .iaload, 0), (93, false, .iconst 2, 0), (94, false, .if_icmp .ne 19, 113), (97, false, .aload_n 0, 0), (98, false, .iconst 0, 0), (99, false, .iload_n 1, 0), (100, false, .invokevirtual 141, 0), (103, false, .aload_n 0, 0), (104, false, .iconst 0, 0), (105, false, .iload_n 1, 0), (106, false, .invokevirtual 137, 0), (109, false, .isub, 0), (110, false, .goto 4, 114), (113, false, .iconst 0, 0), (114, false, .iastore, 0), (115, false, .iinc 1 1, 0), (118, false, .goto (-70), 48), (121, false, .aload_n 0, 0), (122, false, .invokevirtual 144, 0), (125, false, .istore_n 1, 0), (126, true, .iload_n 1, 0), (127, false, .ifCond .lt 16, 143), (130, false, .aload_n 0, 0), (131, false, .iload_n 1, 0), (132, false, .invokevirtual 147, 0), (135, false, .aload_n 0, 0), (136, false, .invokevirtual 144, 0), (139, false, .istore_n 1, 0), (140, false, .goto (-14), 126), (143, false, .return_, 0)]
set_option maxRecDepth 20000 in
theorem gx_d76 : ∀ q ∈ gx_t76, decode (gx_code 76) q.1 = .ok (q.2.2.1, gx_len q.2.2.1) ∧ gx_jok q.1 q.2.2.1 q.2.2.2 = true ∧ gx_rok 76 q.2.2.1 = true := by decide +kernel
/-- GreatestFlowModel.firstGiver()I -/
def gx_t77 : List (Nat × Bool × Instr × Nat) := [(0, false, .iconst 0, 0), (1, false, .istore_n 1, 0), (2, true, .iload_n 1, 0), (3, false, .aload_n 0, 0), (4, false, .getfield 91, 0), (7, false, .if_icmp .ge 30, 37), (10, false, .aload_n 0, 0), (11, false, .getfield 7, 0), (14, false, .iload_n 1, 0), (15, false, .iaload, 0), (16, false, .iconst 1, 0), (17, false, .if_icmp .ne 14, 31), (20, false, .aload_n 0, 0), (21, false, .getfield 71, 0), (24, false, .iload_n 1, 0), (25, false, .iaload, 0), (26, false, .ifCond .le 5, 31), (29, false, .iload_n 1, 0), (30, false, .ireturn, 0), (31, false, .iinc 1 1, 0), (34, false, .goto (-32), 2), (37, false, .iconst (-1), 0), (38, false, .ireturn, 0)]
set_option maxRecDepth 20000 in
theorem gx_d77 : ∀ q ∈ gx_t77, decode (gx_code 77) q.1 = .ok (q.2.2.1, gx_len q.2.2.1) ∧ gx_jok q.1 q.2.2.1 q.2.2.2 = true ∧ gx_rok 77 q.2.2.1 = true := by decide +kernel
/-- GreatestFlowModel.walk(I)V -/
def gx_t78 : List (Nat × Bool × Instr × Nat) := [(0, false, .iconst 0, 0), (1, false, .istore_n 2, 0), (2, true, .iload_n 2, 0), (3, false, .aload_n 0, 0), (4, false, .getfield 91, 0), (7, false, .if_icmp .ge 16, 23), (10, false, .aload_n 0, 0), (11, false, .getfield 77, 0), (14, false, .iload_n 2, 0), (15, false, .iconst (-1), 0), (16, false, .iastore, 0), (17, false, .iinc 2 1, 0), (20, false, .goto (-18), 2), (23, false, .iconst 0, 0), (24, false, .istore_n 2, 0), (25, false, .iload_n 1, 0), (26, false, .istore_n 3, 0), (27, false, .aload_n 0, 0), (28, false, .getfield 77, 0), (31, false, .iload_n 3, 0), (32, false, .iconst 0, 0), (33, false, .iastore, 0), (34, true, .aload_n 0, 0), (35, false, .getfield 7, 0), (38, false, .iload_n 3, 0), (39, false, .iaload, 0), (40, false, .iconst 2, 0), (41, false, .if_icmp .ne 12, 53), (44, false, .aload_n 0, 0), (45, false, .getfield 71, 0), (48, false, .iload_n 3, 0), (49, false, .iaload, 0), (50, false, .ifCond .ne 71, 121), (53, false, .aload_n 0, 0), (54, false, .iload_n 3, 0), (55, false, .invokevirtual 150, 0), (58, false, .istore 4, 0), (60, false, .aload_n 0, 0), (61, false, .getfield 74, 0), (64, false, .iload_n 2, 0), (65, false, .iload 4, 0), (67, false, .iastore, 0), (68, false, .iinc 2 1, 0), (71, false, .aload_n 0, 0), (72, false, .getfield 19, 0), (75, false, .iload 4, 0), (77, false, .iaload, 0), (78, false, .istore_n 3, 0), (79, false, .aload_n 0, 0), (80, false, .getfield 77, 0), (83, false, .iload_n 3, 0), (84, false, .iaload, 0), (85, false, .ifCond .lt 26, 111), (88, false, .aload_n 0, 0), (89, false, .aload_n 0, 0), (90, false, .getfield 77, 0), (93, false, .iload_n 3, 0), (94, false, .iaload, 0), (95, false, .iload_n 2, 0), (96, false, .aload_n 0, 0), (97, false, .aload_n 0, 0), (98, false, .getfield 77, 0), (101, false, .iload_n 3, 0), (102, false, .iaload, 0), (103, false, .iload_n 2, 0), (104, false, .invokevirtual 154, 0), (107, false, .invokevirtual 157, 0), (110, false, .return_, 0), (111, false, .aload_n 0, 0), (112, false, .getfield 77, 0), (115, false, .iload_n 3, 0), (116, false, .iload_n 2, 0), (117, false, .iastore, 0), (118, false, .goto (-84), 34), (121, false, .aload_n 0, 0), (122, false, .iconst 0, 0), (123, false, .iload_n 2, 0), (124, false, .invokevirtual 154, 0), (127, false, .istore 4, 0), (129, false, .aload_n 0, 0), (130, false, .getfield 71, 0), (133, false, .iload_n 1, 0), (134, false, .iaload, 0), (135, false, .iload 4, 0), (137, false, .if_icmp .ge 12, 149), (140, false, .aload_n 0, 0), (141, false, .getfield 71, 0), (144, false, .iload_n 1, 0), (145, false, .iaload, 0), (146, false, .goto 5, 151), (149, false, .iload 4, 0), (151, false, .istore 4, 0), (153, false, .aload_n 0, 0), (154, false, .getfield 71, 0), (157, false, .iload_n 3, 0), (158, false, .iaload, 0), (159, false, .iload 4, 0), (161, false, .if_icmp .ge 12, 173), (164, false, .aload_n 0, 0), (165, false, .getfield 71, 0), (168, false, .iload_n 3, 0), (169, false, .iaload, 0), (170, false, .goto 5, 175), (173, false, .iload 4, 0), (175, false, .istore 4, 0), (177, false, .aload_n 0, 0), (178, false, .iconst 0, 0), (179, false, .iload_n 2, 0), (180, false, .iload 4, 0), (182, false, .invokevirtual 157, 0), (185, false, .aload_n 0, 0), (186, false, .getfield 71, 0), (189, false, .iload_n 1, 0), (190, false, .dup2, 0), (191, false, .iaload, 0), (192, false, .iload 4, 0), (194, false, .isub, 0), (195, false, .iastore, 0), (196, false, .aload_n 0, 0), (197, false, .getfield 71, 0), (200, false, .iload_n 3, 0), (201, false, .dup2, 0), (202, false, .iaload, 0), (203, false, .iload 4, 0), (205, false, .isub, 0), (206, false, .iastore, 0), (207, false, .aload_n 0, 0), (208, false, .getfield 59, 0), (211, false, .aload_n 0, 0), (212, false, .getfield 134, 0), (215, false, .iload 4, 0), (217, false, .iastore, 0), (218, false, .aload_n 0, 0), (219, false, .getfield 62, 0), (222, false, .aload_n 0, 0), (223, false, .getfield 134, 0), (226, false, .iload_n 2, 0), (227, false, .iastore, 0), (228, false, .iconst 0, 0), (229, false, .istore 5, 0), (231, true, .iload 5, 0), (233, false, .iload_n 2, 0), (234, false, .if_icmp .ge 31, 265), (237, false, .aload_n 0, 0), (238, false, .getfield 65, 0), (241, false, .bipush 10, 0), (243, false, .aload_n 0, 0), (244, false, .getfield 134, 0), (247, false, .imul, 0), (248, false, .iload 5, 0), (250, false, .iadd, 0), (251, false, .aload_n 0, 0), (252, false, .getfield 74, 0), (255, false, .iload 5, 0), (257, false, .iaload, 0), (258, false, .iastore, 0), (259, false, .iinc 5 1, 0), (262, false, .goto (-31), 231), (265, false, .aload_n 0, 0), (266, false, .dup, 0), (267, false, .getfield 134, 0), (270, false, .iconst 1, 0), (271, false, .iadd, 0), (272, false, .putfield 134, 0), (275, false, .return_, 0)]
set_option maxRecDepth 20000 in
theorem gx_d78 : ∀ q ∈ gx_t78, decode (gx_code 78) q.1 = .ok (q.2.2.1, gx_len q.2.2.1) ∧ gx_jok q.1 q.2.2.1 q.2.2.2 = true ∧ gx_rok 78 q.2.2.1 = true := by decide +kernel
/-- GreatestFlowModel.isNode(I)Z -/
def gx_t79 : List (Nat × Bool × Instr × Nat) := [(0, false, .iload_n 1, 0), (1, false, .ifCond .lt 15, 16), (4, false, .iload_n 1, 0), (5, false, .aload_n 0, 0), (6, false, .getfield 91, 0), (9, false, .if_icmp .ge 7, 16), (12, false, .iconst 1, 0), (13, false, .goto 4, 17), (16, false, .iconst 0, 0), (17, false, .ireturn, 0)]
set_option maxRecDepth 20000 in
theorem gx_d79 : ∀ q ∈ gx_t79, decode (gx_code 79) q.1 = .ok (q.2.2.1, gx_len q.2.2.1) ∧ gx_jok q.1 q.2.2.1 q.2.2.2 = true ∧ gx_rok 79 q.2.2.1 = true := by decide +kernel
/-- GreatestFlowModel.isArc(I)Z -/
def gx_t80 : List (Nat × Bool × Instr × Nat) := [(0, false, .iload_n 1, 0), (1, false, .ifCond .lt 24, 25), (4, false, .iload_n 1, 0), (5, false, .aload_n 0, 0), (6, false, .getfield 84, 0), (9, false, .if_icmp .ge 16, 25), (12, false, .aload_n 0, 0), (13, false, .getfield 28, 0), (16, false, .iload_n 1, 0), (17, false, .baload, 0), (18, false, .ifCond .eq 7, 25), (21, false, .iconst 1, 0), (22, false, .goto 4, 26), (25, false, .iconst 0, 0), (26, false, .ireturn, 0)]
set_option maxRecDepth 20000 in
theorem gx_d80 : ∀ q ∈ gx_t80, decode (gx_code 80) q.1 = .ok (q.2.2.1, gx_len q.2.2.1) ∧ gx_jok q.1 q.2.2.1 q.2.2.2 = true ∧ gx_rok 80 q.2.2.1 = true := by decide +kernel
/-- GreatestFlowModel.isSpan(II)Z -/
def gx_t81 : List (Nat × Bool × Instr × Nat) := [(0, false, .iload_n 0, 0), (1, false, .ifCond .lt 19, 20), (4, false, .iload_n 1, 0), (5, false, .sipush 1000, 0), (8, false, .if_icmp .gt 12, 20), (11, false, .iload_n 0, 0), (12, false, .iload_n 1, 0), (13, false, .if_icmp .gt 7, 20), (16, false, .iconst 1, 0), (17, false, .goto 4, 21), (20, false, .iconst 0, 0), (21, false, .ireturn, 0)]
set_option maxRecDepth 20000 in
theorem gx_d81 : ∀ q ∈ gx_t81, decode (gx_code 81) q.1 = .ok (q.2.2.1, gx_len q.2.2.1) ∧ gx_jok q.1 q.2.2.1 q.2.2.2 = true ∧ gx_rok 81 q.2.2.1 = true := by decide +kernel
/-- GreatestFlowModel.node()I -/
def gx_t82 : List (Nat × Bool × Instr × Nat) := [(0, false, .aload_n 0, 0), (1, false, .getfield 91, 0), (4, false, .bipush 10, 0), (6, false, .if_icmp .ne 6, 12), (9, false, .bipush (-4), 0), (11, false, .ireturn, 0), (12, false, .aload_n 0, 0), (13, false, .getfield 7, 0), (16, false, .aload_n 0, 0), (17, false, .getfield 91, 0), (20, false, .iconst 0, 0), (21, false, .iastore, 0), (22, false, .aload_n 0, 0), (23, false, .getfield 13, 0), (26, false, .aload_n 0, 0), (27, false, .getfield 91, 0), (30, false, .iconst (-1), 0), (31, false, .iastore, 0), (32, false, .aload_n 0, 0), (33, false, .dup, 0), (34, false, .getfield 91, 0), (37, false, .iconst 1, 0), (38, false, .iadd, 0), (39, false, .putfield 91, 0), (42, false, .aload_n 0, 0), (43, false, .iconst 0, 0), (44, false, .putfield 117, 0), (47, false, .aload_n 0, 0), (48, false, .getfield 91, 0), (51, false, .iconst 1, 0), (52, false, .isub, 0), (53, false, .ireturn, 0)]
set_option maxRecDepth 20000 in
theorem gx_d82 : ∀ q ∈ gx_t82, decode (gx_code 82) q.1 = .ok (q.2.2.1, gx_len q.2.2.1) ∧ gx_jok q.1 q.2.2.1 q.2.2.2 = true ∧ gx_rok 82 q.2.2.1 = true := by decide +kernel
/-- GreatestFlowModel.kind(II)I -/
def gx_t83 : List (Nat × Bool × Instr × Nat) := [(0, false, .aload_n 0, 0), (1, false, .iload_n 1, 0), (2, false, .invokevirtual 161, 0), (5, false, .ifCond .ne 5, 10), (8, false, .iconst (-1), 0), (9, false, .ireturn, 0), (10, false, .iload_n 2, 0), (11, false, .ifCond .lt 8, 19), (14, false, .iload_n 2, 0), (15, false, .iconst 2, 0), (16, false, .if_icmp .le 6, 22), (19, false, .bipush (-2), 0), (21, false, .ireturn, 0), (22, false, .aload_n 0, 0), (23, false, .getfield 7, 0), (26, false, .iload_n 1, 0), (27, false, .iaload, 0), (28, false, .istore_n 3, 0), (29, false, .aload_n 0, 0), (30, false, .getfield 7, 0), (33, false, .iload_n 1, 0), (34, false, .iload_n 2, 0), (35, false, .iastore, 0), (36, false, .aload_n 0, 0), (37, false, .iconst 0, 0), (38, false, .putfield 117, 0), (41, false, .iload_n 3, 0), (42, false, .ireturn, 0)]
set_option maxRecDepth 20000 in
theorem gx_d83 : ∀ q ∈ gx_t83, decode (gx_code 83) q.1 = .ok (q.2.2.1, gx_len q.2.2.1) ∧ gx_jok q.1 q.2.2.1 q.2.2.2 = true ∧ gx_rok 83 q.2.2.1 = true := by decide +kernel
/-- GreatestFlowModel.bound(II)I -/
def gx_t84 : List (Nat × Bool × Instr × Nat) := [(0, false, .aload_n 0, 0), (1, false, .iload_n 1, 0), (2, false, .invokevirtual 161, 0), (5, false, .ifCond .ne 5, 10), (8, false, .iconst (-1), 0), (9, false, .ireturn, 0), (10, false, .iload_n 2, 0), (11, false, .iconst (-1), 0), (12, false, .if_icmp .lt 9, 21), (15, false, .iload_n 2, 0), (16, false, .ldc 165, 0), (18, false, .if_icmp .le 6, 24), (21, false, .bipush (-2), 0), (23, false, .ireturn, 0), (24, false, .aload_n 0, 0), (25, false, .getfield 13, 0), (28, false, .iload_n 1, 0), (29, false, .iload_n 2, 0), (30, false, .iastore, 0), (31, false, .aload_n 0, 0), (32, false, .iconst 0, 0), (33, false, .putfield 117, 0), (36, false, .iconst 1, 0), (37, false, .ireturn, 0)]
set_option maxRecDepth 20000 in
theorem gx_d84 : ∀ q ∈ gx_t84, decode (gx_code 84) q.1 = .ok (q.2.2.1, gx_len q.2.2.1) ∧ gx_jok q.1 q.2.2.1 q.2.2.2 = true ∧ gx_rok 84 q.2.2.1 = true := by decide +kernel
/-- GreatestFlowModel.arc(IIII)I -/
def gx_t85 : List (Nat × Bool × Instr × Nat) := [(0, false, .aload_n 0, 0), (1, false, .iload_n 1, 0), (2, false, .invokevirtual 161, 0), (5, false, .ifCond .eq 16, 21), (8, false, .aload_n 0, 0), (9, false, .iload_n 2, 0), (10, false, .invokevirtual 161, 0), (13, false, .ifCond .eq 8, 21), (16, false, .iload_n 1, 0), (17, false, .iload_n 2, 0), (18, false, .if_icmp .ne 5, 23), (21, false, .iconst (-1), 0), (22, false, .ireturn, 0), (23, false, .iload_n 3, 0), (24, false, .iload 4, 0), (26, false, .invokestatic 166, 0), (29, false, .ifCond .ne 6, 35), (32, false, .bipush (-2), 0), (34, false, .ireturn, 0), (35, false, .aload_n 0, 0), (36, false, .getfield 84, 0), (39, false, .bipush 40, 0), (41, false, .if_icmp .ne 6, 47), (44, false, .bipush (-4), 0), (46, false, .ireturn, 0), (47, false, .aload_n 0, 0), (48, false, .getfield 16, 0), (51, false, .aload_n 0, 0), (52, false, .getfield 84, 0), (55, false, .iload_n 1, 0), (56, false, .iastore, 0), (57, false, .aload_n 0, 0), (58, false, .getfield 19, 0), (61, false, .aload_n 0, 0), (62, false, .getfield 84, 0), (65, false, .iload_n 2, 0), (66, false, .iastore, 0), (67, false, .aload_n 0, 0), (68, false, .getfield 22, 0), (71, false, .aload_n 0, 0), (72, false, .getfield 84, 0), (75, false, .iload_n 3, 0), (76, false, .iastore, 0), (77, false, .aload_n 0, 0), (78, false, .getfield 25, 0), (81, false, .aload_n 0, 0), (82, false, .getfield 84, 0), (85, false, .iload 4, 0), (87, false, .iastore, 0), (88, false, .aload_n 0, 0), (89, false, .getfield 28, 0), (92, false, .aload_n 0, 0), (93, false, .getfield 84, 0), (96, false, .iconst 1, 0), (97, false, .bastore, 0), (98, false, .aload_n 0, 0), (99, false, .dup, 0), (100, false, .getfield 84, 0), (103, false, .iconst 1, 0), (104, false, .iadd, 0), (105, false, .putfield 84, 0), (108, false, .aload_n 0, 0), (109, false, .iconst 0, 0), (110, false, .putfield 117, 0), (113, false, .aload_n 0, 0), (114, false, .getfield 84, 0), (117, false, .iconst 1, 0), (118, false, .isub, 0), (119, false, .ireturn, 0)]
set_option maxRecDepth 20000 in
theorem gx_d85 : ∀ q ∈ gx_t85, decode (gx_code 85) q.1 = .ok (q.2.2.1, gx_len q.2.2.1) ∧ gx_jok q.1 q.2.2.1 q.2.2.2 = true ∧ gx_rok 85 q.2.2.1 = true := by decide +kernel
/-- GreatestFlowModel.change(III)I -/
def gx_t86 : List (Nat × Bool × Instr × Nat) := [(0, false, .aload_n 0, 0), (1, false, .iload_n 1, 0), (2, false, .invokevirtual 169, 0), (5, false, .ifCond .ne 5, 10), (8, false, .iconst (-1), 0), (9, false, .ireturn, 0), (10, false, .iload_n 2, 0), (11, false, .iload_n 3, 0), (12, false, .invokestatic 166, 0), (15, false, .ifCond .ne 6, 21), (18, false, .bipush (-2), 0), (20, false, .ireturn, 0), (21, false, .aload_n 0, 0), (22, false, .getfield 22, 0), (25, false, .iload_n 1, 0), (26, false, .iload_n 2, 0), (27, false, .iastore, 0), (28, false, .aload_n 0, 0), (29, false, .getfield 25, 0), (32, false, .iload_n 1, 0), (33, false, .iload_n 3, 0), (34, false, .iastore, 0), (35, false, .aload_n 0, 0), (36, false, .iconst 0, 0), (37, false, .putfield 117, 0), (40, false, .iconst 1, 0), (41, false, .ireturn, 0)]
set_option maxRecDepth 20000 in
theorem gx_d86 : ∀ q ∈ gx_t86, decode (gx_code 86) q.1 = .ok (q.2.2.1, gx_len q.2.2.1) ∧ gx_jok q.1 q.2.2.1 q.2.2.2 = true ∧ gx_rok 86 q.2.2.1 = true := by decide +kernel
/-- GreatestFlowModel.drop(I)I -/
def gx_t87 : List (Nat × Bool × Instr × Nat) := [(0, false, .aload_n 0, 0), (1, false, .iload_n 1, 0), (2, false, .invokevirtual 169, 0), (5, false, .ifCond .ne 5, 10), (8, false, .iconst (-1), 0), (9, false, .ireturn, 0), (10, false, .aload_n 0, 0), (11, false, .getfield 28, 0), (14, false, .iload_n 1, 0), (15, false, .iconst 0, 0), (16, false, .bastore, 0), (17, false, .aload_n 0, 0), (18, false, .iconst 0, 0), (19, false, .putfield 117, 0), (22, false, .iconst 0, 0), (23, false, .istore_n 2, 0), (24, false, .iconst 0, 0), (25, false, .istore_n 3, 0), (26, true, .iload_n 3, 0), (27, false, .aload_n 0, 0), (28, false, .getfield 84, 0), (31, false, .if_icmp .ge 26, 57), (34, false, .iload_n 2, 0), (35, false, .aload_n 0, 0), (36, false, .getfield 28, 0), (39, false, .iload_n 3, 0), (40, false, .baload, 0), (41, false, .ifCond .eq 7, 48), (44, false, .iconst 1, 0), (45, false, .goto 4, 49), (48, false, .iconst 0, 0), (49, false, .iadd, 0), (50, false, .istore_n 2, 0), (51, false, .iinc 3 1, 0), (54, false, .goto (-28), 26), (57, false, .iload_n 2, 0), (58, false, .ireturn, 0)]
set_option maxRecDepth 20000 in
theorem gx_d87 : ∀ q ∈ gx_t87, decode (gx_code 87) q.1 = .ok (q.2.2.1, gx_len q.2.2.1) ∧ gx_jok q.1 q.2.2.1 q.2.2.2 = true ∧ gx_rok 87 q.2.2.1 = true := by decide +kernel
/-- GreatestFlowModel.clear()I -/
def gx_t88 : List (Nat × Bool × Instr × Nat) := [(0, false, .aload_n 0, 0), (1, false, .getfield 91, 0), (4, false, .istore_n 1, 0), (5, false, .aload_n 0, 0), (6, false, .iconst 0, 0), (7, false, .putfield 91, 0), (10, false, .aload_n 0, 0), (11, false, .iconst 0, 0), (12, false, .putfield 84, 0), (15, false, .aload_n 0, 0), (16, false, .iconst 0, 0), (17, false, .putfield 117, 0), (20, false, .iload_n 1, 0), (21, false, .ireturn, 0)]
set_option maxRecDepth 20000 in
theorem gx_d88 : ∀ q ∈ gx_t88, decode (gx_code 88) q.1 = .ok (q.2.2.1, gx_len q.2.2.1) ∧ gx_jok q.1 q.2.2.1 q.2.2.2 = true ∧ gx_rok 88 q.2.2.1 = true := by decide +kernel
/-- GreatestFlowModel.run()I -/
def gx_t89 : List (Nat × Bool × Instr × Nat) := [(0, false, .aload_n 0, 0), (1, false, .invokevirtual 172, 0), (4, false, .aload_n 0, 0), (5, false, .getfield 121, 0), (8, false, .ifCond .eq 7, 15), (11, false, .iconst 1, 0), (12, false, .goto 4, 16), (15, false, .iconst 0, 0), (16, false, .ireturn, 0)]
set_option maxRecDepth 20000 in
theorem gx_d89 : ∀ q ∈ gx_t89, decode (gx_code 89) q.1 = .ok (q.2.2.1, gx_len q.2.2.1) ∧ gx_jok q.1 q.2.2.1 q.2.2.2 = true ∧ gx_rok 89 q.2.2.1 = true := by decide +kernel
/-- GreatestFlowModel.isWay(I)Z -/
def gx_t90 : List (Nat × Bool × Instr × Nat) := [(0, false, .iload_n 0, 0), (1, false, .ifCond .eq 8, 9), (4, false, .iload_n 0, 0), (5, false, .iconst 1, 0), (6, false, .if_icmp .ne 7, 13), (9, false, .iconst 1, 0), (10, false, .goto 4, 14), (13, false, .iconst 0, 0), (14, false, .ireturn, 0)]
set_option maxRecDepth 20000 in
theorem gx_d90 : ∀ q ∈ gx_t90, decode (gx_code 90) q.1 = .ok (q.2.2.1, gx_len q.2.2.1) ∧ gx_jok q.1 q.2.2.1 q.2.2.2 = true ∧ gx_rok 90 q.2.2.1 = true := by decide +kernel
/-- GreatestFlowModel.value(I)I -/
def gx_t91 : List (Nat × Bool × Instr × Nat) := [(0, false, .iload_n 1, 0), (1, false, .invokestatic 175, 0), (4, false, .ifCond .ne 5, 9), (7, false, .iconst (-1), 0), (8, false, .ireturn, 0), (9, false, .aload_n 0, 0), (10, false, .invokevirtual 172, 0), (13, false, .aload_n 0, 0), (14, false, .getfield 121, 0), (17, false, .ifCond .eq 12, 29), (20, false, .aload_n 0, 0), (21, false, .getfield 50, 0), (24, false, .iload_n 1, 0), (25, false, .iaload, 0), (26, false, .goto 5, 31), (29, false, .bipush (-3), 0), (31, false, .ireturn, 0)]
set_option maxRecDepth 20000 in
theorem gx_d91 : ∀ q ∈ gx_t91, decode (gx_code 91) q.1 = .ok (q.2.2.1, gx_len q.2.2.1) ∧ gx_jok q.1 q.2.2.1 q.2.2.2 = true ∧ gx_rok 91 q.2.2.1 = true := by decide +kernel
/-- GreatestFlowModel.on(II)I -/
def gx_t92 : List (Nat × Bool × Instr × Nat) := [(0, false, .iload_n 1, 0), (1, false, .invokestatic 175, 0), (4, false, .ifCond .eq 11, 15), (7, false, .aload_n 0, 0), (8, false, .iload_n 2, 0), (9, false, .invokevirtual 169, 0), (12, false, .ifCond .ne 5, 17), (15, false, .iconst (-1), 0), (16, false, .ireturn, 0), (17, false, .aload_n 0, 0), (18, false, .invokevirtual 172, 0), (21, false, .aload_n 0, 0), (22, false, .getfield 121, 0), (25, false, .ifCond .eq 17, 42), (28, false, .aload_n 0, 0), (29, false, .getfield 53, 0), (32, false, .bipush 40, 0), (34, false, .iload_n 1, 0), (35, false, .imul, 0), (36, false, .iload_n 2, 0), (37, false, .iadd, 0), (38, false, .iaload, 0), (39, false, .goto 5, 44), (42, false, .bipush (-3), 0), (44, false, .ireturn, 0)]
set_option maxRecDepth 20000 in
theorem gx_d92 : ∀ q ∈ gx_t92, decode (gx_code 92) q.1 = .ok (q.2.2.1, gx_len q.2.2.1) ∧ gx_jok q.1 q.2.2.1 q.2.2.2 = true ∧ gx_rok 92 q.2.2.1 = true := by decide +kernel
/-- GreatestFlowModel.through(II)I -/
def gx_t93 : List (Nat × Bool × Instr × Nat) := [(0, false, .iload_n 1, 0), (1, false, .invokestatic 175, 0), (4, false, .ifCond .eq 11, 15), (7, false, .aload_n 0, 0), (8, false, .iload_n 2, 0), (9, false, .invokevirtual 161, 0), (12, false, .ifCond .ne 5, 17), (15, false, .iconst (-1), 0), (16, false, .ireturn, 0), (17, false, .aload_n 0, 0), (18, false, .invokevirtual 172, 0), (21, false, .aload_n 0, 0), (22, false, .getfield 121, 0), (25, false, .ifCond .ne 6, 31), (28, false, .bipush (-3), 0), (30, false, .ireturn, 0), (31, false, .aload_n 0, 0), (32, false, .iload_n 1, 0), (33, false, .iload_n 2, 0), (34, false, .invokevirtual 141, 0), (37, false, .istore_n 3, 0), (38, false, .aload_n 0, 0), (39, false, .iload_n 1, 0), (40, false, .iload_n 2, 0), (41, false, .invokevirtual 137, 0), (44, false, .istore 4, 0), (46, false, .iload_n 3, 0), (47, false, .iload 4, 0), (49, false, .if_icmp .le 7, 56), (52, false, .iload_n 3, 0), (53, false, .goto 5, 58), (56, false, .iload 4, 0), (58, false, .ireturn, 0)]
set_option maxRecDepth 20000 in
theorem gx_d93 : ∀ q ∈ gx_t93, decode (gx_code 93) q.1 = .ok (q.2.2.1, gx_len q.2.2.1) ∧ gx_jok q.1 q.2.2.1 q.2.2.2 = true ∧ gx_rok 93 q.2.2.1 = true := by decide +kernel
/-- GreatestFlowModel.asKind(II)I -/
def gx_t94 : List (Nat × Bool × Instr × Nat) := [(0, false, .aload_n 0, 0), (1, false, .iload_n 1, 0), (2, false, .invokevirtual 161, 0), (5, false, .ifCond .ne 5, 10), (8, false, .iconst (-1), 0), (9, false, .ireturn, 0), (10, false, .aload_n 0, 0), (11, false, .getfield 7, 0), (14, false, .iload_n 1, 0), (15, false, .iaload, 0), (16, false, .ifCond .eq 6, 22), (19, false, .bipush (-2), 0), (21, false, .ireturn, 0), (22, false, .aload_n 0, 0), (23, false, .invokevirtual 172, 0), (26, false, .aload_n 0, 0), (27, false, .getfield 121, 0), (30, false, .ifCond .ne 6, 36), (33, false, .bipush (-3), 0), (35, false, .ireturn, 0), (36, false, .aload_n 0, 0), (37, false, .invokevirtual 107, 0), (40, false, .aload_n 0, 0), (41, false, .getfield 38, 0), (44, false, .iload_n 1, 0), (45, false, .iload_n 2, 0), (46, false, .iastore, 0), (47, false, .aload_n 0, 0), (48, false, .aload_n 0, 0), (49, false, .getfield 50, 0), (52, false, .iconst 0, 0), (53, false, .iaload, 0), (54, false, .iconst 1, 0), (55, false, .iadd, 0), (56, false, .ldc 94, 0), (58, false, .invokevirtual 103, 0), (61, false, .ifCond .eq 7, 68), (64, false, .iconst 1, 0), (65, false, .goto 4, 69), (68, false, .iconst 0, 0), (69, false, .ireturn, 0)]
set_option maxRecDepth 20000 in
theorem gx_d94 : ∀ q ∈ gx_t94, decode (gx_code 94) q.1 = .ok (q.2.2.1, gx_len q.2.2.1) ∧ gx_jok q.1 q.2.2.1 q.2.2.2 = true ∧ gx_rok 94 q.2.2.1 = true := by decide +kernel
/-- GreatestFlowModel.near(I)I -/
def gx_t95 : List (Nat × Bool × Instr × Nat) := [(0, false, .aload_n 0, 0), (1, false, .iload_n 1, 0), (2, false, .iconst 2, 0), (3, false, .invokevirtual 178, 0), (6, false, .ireturn, 0)]
set_option maxRecDepth 20000 in
theorem gx_d95 : ∀ q ∈ gx_t95, decode (gx_code 95) q.1 = .ok (q.2.2.1, gx_len q.2.2.1) ∧ gx_jok q.1 q.2.2.1 q.2.2.2 = true ∧ gx_rok 95 q.2.2.1 = true := by decide +kernel
/-- GreatestFlowModel.far(I)I -/
def gx_t96 : List (Nat × Bool × Instr × Nat) := [(0, false, .aload_n 0, 0), (1, false, .iload_n 1, 0), (2, false, .iconst 1, 0), (3, false, .invokevirtual 178, 0), (6, false, .ireturn, 0)]
set_option maxRecDepth 20000 in
theorem gx_d96 : ∀ q ∈ gx_t96, decode (gx_code 96) q.1 = .ok (q.2.2.1, gx_len q.2.2.1) ∧ gx_jok q.1 q.2.2.1 q.2.2.2 = true ∧ gx_rok 96 q.2.2.1 = true := by decide +kernel
/-- GreatestFlowModel.tight(I)I -/
def gx_t97 : List (Nat × Bool × Instr × Nat) := [(0, false, .aload_n 0, 0), (1, false, .iload_n 1, 0), (2, false, .invokevirtual 169, 0), (5, false, .ifCond .ne 5, 10), (8, false, .iconst (-1), 0), (9, false, .ireturn, 0), (10, false, .aload_n 0, 0), (11, false, .invokevirtual 172, 0), (14, false, .aload_n 0, 0), (15, false, .getfield 121, 0), (18, false, .ifCond .ne 6, 24), (21, false, .bipush (-3), 0), (23, false, .ireturn, 0), (24, false, .aload_n 0, 0), (25, false, .invokevirtual 107, 0), (28, false, .aload_n 0, 0), (29, false, .getfield 35, 0), (32, false, .iload_n 1, 0), (33, false, .dup2, 0), (34, false, .iaload, 0), (35, false, .iconst 1, 0), (36, false, .iadd, 0), (37, false, .iastore, 0), (38, false, .aload_n 0, 0), (39, false, .aload_n 0, 0), (40, false, .getfield 50, 0), (43, false, .iconst 0, 0), (44, false, .iaload, 0), (45, false, .iconst 1, 0), (46, false, .iadd, 0), (47, false, .ldc 94, 0), (49, false, .invokevirtual 103, 0), (52, false, .ifCond .eq 7, 59), (55, false, .iconst 1, 0), (56, false, .goto 4, 60), (59, false, .iconst 0, 0), (60, false, .ireturn, 0)]
set_option maxRecDepth 20000 in
theorem gx_d97 : ∀ q ∈ gx_t97, decode (gx_code 97) q.1 = .ok (q.2.2.1, gx_len q.2.2.1) ∧ gx_jok q.1 q.2.2.1 q.2.2.2 = true ∧ gx_rok 97 q.2.2.1 = true := by decide +kernel
/-- GreatestFlowModel.barred(I)I -/
def gx_t98 : List (Nat × Bool × Instr × Nat) := [(0, false, .aload_n 0, 0), (1, false, .invokevirtual 172, 0), (4, false, .aload_n 0, 0), (5, false, .getfield 121, 0), (8, false, .ifCond .eq 6, 14), (11, false, .bipush (-2), 0), (13, false, .ireturn, 0), (14, false, .iconst 0, 0), (15, false, .istore_n 2, 0), (16, false, .iconst 0, 0), (17, false, .istore_n 3, 0), (18, true, .iload_n 3, 0), (19, false, .aload_n 0, 0), (20, false, .getfield 84, 0), (23, false, .if_icmp .ge 28, 51), (26, false, .aload_n 0, 0), (27, false, .getfield 56, 0), (30, false, .iload_n 3, 0), (31, false, .baload, 0), (32, false, .ifCond .eq 13, 45), (35, false, .iload_n 2, 0), (36, false, .iload_n 1, 0), (37, false, .if_icmp .ne 5, 42), (40, false, .iload_n 3, 0), (41, false, .ireturn, 0), (42, false, .iinc 2 1, 0), (45, false, .iinc 3 1, 0), (48, false, .goto (-30), 18), (51, false, .iconst (-1), 0), (52, false, .ireturn, 0)]
set_option maxRecDepth 20000 in
theorem gx_d98 : ∀ q ∈ gx_t98, decode (gx_code 98) q.1 = .ok (q.2.2.1, gx_len q.2.2.1) ∧ gx_jok q.1 q.2.2.1 q.2.2.2 = true ∧ gx_rok 98 q.2.2.1 = true := by decide +kernel
/-- GreatestFlowModel.streams()I -/
def gx_t99 : List (Nat × Bool × Instr × Nat) := [(0, false, .aload_n 0, 0), (1, false, .invokevirtual 172, 0), (4, false, .aload_n 0, 0), (5, false, .getfield 121, 0), (8, false, .ifCond .eq 10, 18), (11, false, .aload_n 0, 0), (12, false, .getfield 134, 0), (15, false, .goto 5, 20), (18, false, .bipush (-3), 0), (20, false, .ireturn, 0)]
set_option maxRecDepth 20000 in
theorem gx_d99 : ∀ q ∈ gx_t99, decode (gx_code 99) q.1 = .ok (q.2.2.1, gx_len q.2.2.1) ∧ gx_jok q.1 q.2.2.1 q.2.2.2 = true ∧ gx_rok 99 q.2.2.1 = true := by decide +kernel
/-- GreatestFlowModel.stream(II)I -/
def gx_t100 : List (Nat × Bool × Instr × Nat) := [(0, false, .aload_n 0, 0), (1, false, .invokevirtual 172, 0), (4, false, .aload_n 0, 0), (5, false, .getfield 121, 0), (8, false, .ifCond .ne 6, 14), (11, false, .bipush (-3), 0), (13, false, .ireturn, 0), (14, false, .iload_n 1, 0), (15, false, .ifCond .lt 11, 26), (18, false, .iload_n 1, 0), (19, false, .aload_n 0, 0), (20, false, .getfield 134, 0), (23, false, .if_icmp .lt 5, 28), (26, false, .iconst (-1), 0), (27, false, .ireturn, 0), (28, false, .iload_n 2, 0), (29, false, .ifCond .ge 6, 35), (32, false, .bipush (-2), 0), (34, false, .ireturn, 0), (35, false, .iload_n 2, 0), (36, false, .ifCond .ne 12, 48), (39, false, .aload_n 0, 0), (40, false, .getfield 59, 0), (43, false, .iload_n 1, 0), (44, false, .iaload, 0), (45, false, .goto 46, 91), (48, false, .iload_n 2, 0), (49, false, .iconst 1, 0), (50, false, .if_icmp .ne 12, 62), (53, false, .aload_n 0, 0), (54, false, .getfield 62, 0), (57, false, .iload_n 1, 0), (58, false, .iaload, 0), (59, false, .goto 32, 91), (62, false, .iload_n 2, 0), (63, false, .iconst 2, 0), (64, false, .isub, 0), (65, false, .aload_n 0, 0), (66, false, .getfield 62, 0), (69, false, .iload_n 1, 0), (70, false, .iaload, 0), (71, false, .if_icmp .ge 19, 90), (74, false, .aload_n 0, 0), (75, false, .getfield 65, 0), (78, false, .bipush 10, 0), (80, false, .iload_n 1, 0), (81, false, .imul, 0), (82, false, .iload_n 2, 0), (83, false, .iadd, 0), (84, false, .iconst 2, 0), (85, false, .isub, 0), (86, false, .iaload, 0), (87, false, .goto 4, 91), (90, false, .iconst (-1), 0), (91, false, .ireturn, 0)]
set_option maxRecDepth 20000 in
theorem gx_d100 : ∀ q ∈ gx_t100, decode (gx_code 100) q.1 = .ok (q.2.2.1, gx_len q.2.2.1) ∧ gx_jok q.1 q.2.2.1 q.2.2.2 = true ∧ gx_rok 100 q.2.2.1 = true := by decide +kernel
/-- java/lang/Math.abs(I)I -/
def gx_t101 : List (Nat × Bool × Instr × Nat) := [(0, false, .iload_n 0, 0), (1, false, .ifCond .ge 8, 9), (4, false, .iload_n 0, 0), (5, false, .ineg, 0), (6, false, .goto 4, 10), (9, false, .iload_n 0, 0), (10, false, .ireturn, 0)]
set_option maxRecDepth 20000 in
theorem gx_d101 : ∀ q ∈ gx_t101, decode (gx_code 101) q.1 = .ok (q.2.2.1, gx_len q.2.2.1) ∧ gx_jok q.1 q.2.2.1 q.2.2.2 = true ∧ gx_rok 101 q.2.2.1 = true := by decide +kernel
/-- java/lang/Math.max(II)I -/
def gx_t102 : List (Nat × Bool × Instr × Nat) := [(0, false, .iload_n 0, 0), (1, false, .iload_n 1, 0), (2, false, .if_icmp .lt 7, 9), (5, false, .iload_n 0, 0), (6, false, .goto 4, 10), (9, false, .iload_n 1, 0), (10, false, .ireturn, 0)]
set_option maxRecDepth 20000 in
theorem gx_d102 : ∀ q ∈ gx_t102, decode (gx_code 102) q.1 = .ok (q.2.2.1, gx_len q.2.2.1) ∧ gx_jok q.1 q.2.2.1 q.2.2.2 = true ∧ gx_rok 102 q.2.2.1 = true := by decide +kernel
/-- java/lang/Math.min(II)I -/
def gx_t103 : List (Nat × Bool × Instr × Nat) := [(0, false, .iload_n 0, 0), (1, false, .iload_n 1, 0), (2, false, .if_icmp .gt 7, 9), (5, false, .iload_n 0, 0), (6, false, .goto 4, 10), (9, false, .iload_n 1, 0), (10, false, .ireturn, 0)]
set_option maxRecDepth 20000 in
theorem gx_d103 : ∀ q ∈ gx_t103, decode (gx_code 103) q.1 = .ok (q.2.2.1, gx_len q.2.2.1) ∧ gx_jok q.1 q.2.2.1 q.2.2.2 = true ∧ gx_rok 103 q.2.2.1 = true := by decide +kernel
/-- java/util/Arrays.fill([II)V -/
def gx_t104 : List (Nat × Bool × Instr × Nat) := [(0, false, .iconst 0, 0), (1, false, .istore_n 2, 0), (2, false, .aload_n 0, 0), (3, false, .arraylength, 0), (4, false, .istore_n 3, 0), (5, true, .iload_n 2, 0), (6, false, .iload_n 3, 0), (7, false, .if_icmp .ge 13, 20), (10, false, .aload_n 0, 0), (11, false, .iload_n 2, 0), (12, false, .iload_n 1, 0), (13, false, .iastore, 0), (14, false, .iinc 2 1, 0), (17, false, .goto (-12), 5), (20, false, .return_, 0)]
set_option maxRecDepth 20000 in
theorem gx_d104 : ∀ q ∈ gx_t104, decode (gx_code 104) q.1 = .ok (q.2.2.1, gx_len q.2.2.1) ∧ gx_jok q.1 q.2.2.1 q.2.2.2 = true ∧ gx_rok 104 q.2.2.1 = true := by decide +kernel
def gx_tt : List (List (Nat × Bool × Instr × Nat)) := [gx_t0, gx_t1, gx_t2, gx_t3, gx_t4, gx_t5, gx_t6, gx_t7, gx_t8, gx_t9, gx_t10, gx_t11, gx_t12, gx_t13, gx_t14, gx_t15, gx_t16, gx_t17, gx_t18, gx_t19, gx_t20, gx_t21, gx_t22, gx_t23, gx_t24, gx_t25, gx_t26, gx_t27, gx_t28, gx_t29, gx_t30, gx_t31, gx_t32, gx_t33, gx_t34, gx_t35, gx_t36, gx_t37, gx_t38, gx_t39, gx_t40, gx_t41, gx_t42, gx_t43, gx_t44, gx_t45, gx_t46, gx_t47, gx_t48, gx_t49, gx_t50, gx_t51, gx_t52, gx_t53, gx_t54, gx_t55, gx_t56, gx_t57, gx_t58, gx_t59, gx_t60, gx_t61, gx_t62, gx_t63, gx_t64, gx_t65, gx_t66, gx_t67, gx_t68, gx_t69, gx_t70, gx_t71, gx_t72, gx_t73, gx_t74, gx_t75, gx_t76, gx_t77, gx_t78, gx_t79, gx_t80, gx_t81, gx_t82, gx_t83, gx_t84, gx_t85, gx_t86, gx_t87, gx_t88, gx_t89, gx_t90, gx_t91, gx_t92, gx_t93, gx_t94, gx_t95, gx_t96, gx_t97, gx_t98, gx_t99, gx_t100, gx_t101, gx_t102, gx_t103, gx_t104]
def gx_ins (μ pc : Nat) : Option (Bool × Instr × Nat) := (gx_tt.getD μ []).lookup pc
theorem gx_lookup {κ α : Type} [BEq κ] [LawfulBEq κ] {l : List (κ × α)} {k : κ} {v : α} (h : l.lookup k = some v) : (k, v) ∈ l := by
  induction l with
  | nil => cases h
  | cons a l ih =>
    obtain ⟨a, b⟩ := a
    rw [List.lookup_cons] at h
    cases e : (k == a) with
    | true =>
      rw [e] at h
      cases h
      rw [eq_of_beq e]
      exact List.mem_cons_self
    | false =>
      rw [e] at h
      exact List.mem_cons_of_mem _ (ih h)
abbrev gx_R : Type := Nat × Bool × Instr × Nat
def gx_dP (μ : Nat) (l : List gx_R) : Prop := ∀ q ∈ l, decode (gx_code μ) q.1 = .ok (q.2.2.1, gx_len q.2.2.1) ∧ gx_jok q.1 q.2.2.1 q.2.2.2 = true ∧ gx_rok μ q.2.2.1 = true
def gx_all (f : Nat → List gx_R → Prop) : Nat → List (List gx_R) → Prop
  | _, [] => True
  | n, l :: ls => f n l ∧ gx_all f (n + 1) ls
theorem gx_all_get {f : Nat → List gx_R → Prop} : ∀ (ls : List (List gx_R)) (n k : Nat) (l : List gx_R), gx_all f n ls → ls[k]? = some l → f (n + k) l
  | [], n, k, l, _, h => by simp at h
  | a :: ls, n, 0, l, hf, h => by cases h; exact hf.1
  | a :: ls, n, k + 1, l, hf, h => by
    rw [List.getElem?_cons_succ] at h
    have := gx_all_get ls (n + 1) k l hf.2 h
    rwa [show n + 1 + k = n + (k + 1) by omega] at this
set_option maxRecDepth 20000 in
theorem gx_dall : gx_all gx_dP 0 gx_tt := And.intro gx_d0 (And.intro gx_d1 (And.intro gx_d2 (And.intro gx_d3 (And.intro gx_d4 (And.intro gx_d5 (And.intro gx_d6 (And.intro gx_d7 (And.intro gx_d8 (And.intro gx_d9 (And.intro gx_d10 (And.intro gx_d11 (And.intro gx_d12 (And.intro gx_d13 (And.intro gx_d14 (And.intro gx_d15 (And.intro gx_d16 (And.intro gx_d17 (And.intro gx_d18 (And.intro gx_d19 (And.intro gx_d20 (And.intro gx_d21 (And.intro gx_d22 (And.intro gx_d23 (And.intro gx_d24 (And.intro gx_d25 (And.intro gx_d26 (And.intro gx_d27 (And.intro gx_d28 (And.intro gx_d29 (And.intro gx_d30 (And.intro gx_d31 (And.intro gx_d32 (And.intro gx_d33 (And.intro gx_d34 (And.intro gx_d35 (And.intro gx_d36 (And.intro gx_d37 (And.intro gx_d38 (And.intro gx_d39 (And.intro gx_d40 (And.intro gx_d41 (And.intro gx_d42 (And.intro gx_d43 (And.intro gx_d44 (And.intro gx_d45 (And.intro gx_d46 (And.intro gx_d47 (And.intro gx_d48 (And.intro gx_d49 (And.intro gx_d50 (And.intro gx_d51 (And.intro gx_d52 (And.intro gx_d53 (And.intro gx_d54 (And.intro gx_d55 (And.intro gx_d56 (And.intro gx_d57 (And.intro gx_d58 (And.intro gx_d59 (And.intro gx_d60 (And.intro gx_d61 (And.intro gx_d62 (And.intro gx_d63 (And.intro gx_d64 (And.intro gx_d65 (And.intro gx_d66 (And.intro gx_d67 (And.intro gx_d68 (And.intro gx_d69 (And.intro gx_d70 (And.intro gx_d71 (And.intro gx_d72 (And.intro gx_d73 (And.intro gx_d74 (And.intro gx_d75 (And.intro gx_d76 (And.intro gx_d77 (And.intro gx_d78 (And.intro gx_d79 (And.intro gx_d80 (And.intro gx_d81 (And.intro gx_d82 (And.intro gx_d83 (And.intro gx_d84 (And.intro gx_d85 (And.intro gx_d86 (And.intro gx_d87 (And.intro gx_d88 (And.intro gx_d89 (And.intro gx_d90 (And.intro gx_d91 (And.intro gx_d92 (And.intro gx_d93 (And.intro gx_d94 (And.intro gx_d95 (And.intro gx_d96 (And.intro gx_d97 (And.intro gx_d98 (And.intro gx_d99 (And.intro gx_d100 (And.intro gx_d101 (And.intro gx_d102 (And.intro gx_d103 (And.intro gx_d104 True.intro))))))))))))))))))))))))))))))))))))))))))))))))))))))))))))))))))))))))))))))))))))))))))))))))))))))))
theorem gx_dec {μ pc : Nat} {b : Bool} {i : Instr} {n : Nat} (h : gx_ins μ pc = some (b, i, n)) : decode (gx_code μ) pc = .ok (i, gx_len i) ∧ gx_jok pc i n = true ∧ gx_rok μ i = true := by
  unfold gx_ins at h
  rw [List.getD_eq_getElem?_getD] at h
  cases hl : gx_tt[μ]? with
  | none => rw [hl] at h; cases h
  | some l =>
    rw [hl] at h
    have h1 := gx_all_get gx_tt 0 μ l gx_dall hl
    rw [Nat.zero_add] at h1
    exact h1 (pc, b, i, n) (gx_lookup (show l.lookup pc = some (b, i, n) from h))
def gx_kP (q : MethodName × ByteArray × Nat × Option FieldType × Nat × Nat × Nat) : Prop := Cond.code q.1 q.2.1 q.2.2.1 q.2.2.2.1 ∈ gx_TBL
set_option maxRecDepth 20000 in
theorem gx_kall : ∀ q ∈ gx_mm, gx_kP q := List.forall_mem_cons.mpr ⟨gx_k0, List.forall_mem_cons.mpr ⟨gx_k1, List.forall_mem_cons.mpr ⟨gx_k2, List.forall_mem_cons.mpr ⟨gx_k3, List.forall_mem_cons.mpr ⟨gx_k4, List.forall_mem_cons.mpr ⟨gx_k5, List.forall_mem_cons.mpr ⟨gx_k6, List.forall_mem_cons.mpr ⟨gx_k7, List.forall_mem_cons.mpr ⟨gx_k8, List.forall_mem_cons.mpr ⟨gx_k9, List.forall_mem_cons.mpr ⟨gx_k10, List.forall_mem_cons.mpr ⟨gx_k11, List.forall_mem_cons.mpr ⟨gx_k12, List.forall_mem_cons.mpr ⟨gx_k13, List.forall_mem_cons.mpr ⟨gx_k14, List.forall_mem_cons.mpr ⟨gx_k15, List.forall_mem_cons.mpr ⟨gx_k16, List.forall_mem_cons.mpr ⟨gx_k17, List.forall_mem_cons.mpr ⟨gx_k18, List.forall_mem_cons.mpr ⟨gx_k19, List.forall_mem_cons.mpr ⟨gx_k20, List.forall_mem_cons.mpr ⟨gx_k21, List.forall_mem_cons.mpr ⟨gx_k22, List.forall_mem_cons.mpr ⟨gx_k23, List.forall_mem_cons.mpr ⟨gx_k24, List.forall_mem_cons.mpr ⟨gx_k25, List.forall_mem_cons.mpr ⟨gx_k26, List.forall_mem_cons.mpr ⟨gx_k27, List.forall_mem_cons.mpr ⟨gx_k28, List.forall_mem_cons.mpr ⟨gx_k29, List.forall_mem_cons.mpr ⟨gx_k30, List.forall_mem_cons.mpr ⟨gx_k31, List.forall_mem_cons.mpr ⟨gx_k32, List.forall_mem_cons.mpr ⟨gx_k33, List.forall_mem_cons.mpr ⟨gx_k34, List.forall_mem_cons.mpr ⟨gx_k35, List.forall_mem_cons.mpr ⟨gx_k36, List.forall_mem_cons.mpr ⟨gx_k37, List.forall_mem_cons.mpr ⟨gx_k38, List.forall_mem_cons.mpr ⟨gx_k39, List.forall_mem_cons.mpr ⟨gx_k40, List.forall_mem_cons.mpr ⟨gx_k41, List.forall_mem_cons.mpr ⟨gx_k42, List.forall_mem_cons.mpr ⟨gx_k43, List.forall_mem_cons.mpr ⟨gx_k44, List.forall_mem_cons.mpr ⟨gx_k45, List.forall_mem_cons.mpr ⟨gx_k46, List.forall_mem_cons.mpr ⟨gx_k47, List.forall_mem_cons.mpr ⟨gx_k48, List.forall_mem_cons.mpr ⟨gx_k49, List.forall_mem_cons.mpr ⟨gx_k50, List.forall_mem_cons.mpr ⟨gx_k51, List.forall_mem_cons.mpr ⟨gx_k52, List.forall_mem_cons.mpr ⟨gx_k53, List.forall_mem_cons.mpr ⟨gx_k54, List.forall_mem_cons.mpr ⟨gx_k55, List.forall_mem_cons.mpr ⟨gx_k56, List.forall_mem_cons.mpr ⟨gx_k57, List.forall_mem_cons.mpr ⟨gx_k58, List.forall_mem_cons.mpr ⟨gx_k59, List.forall_mem_cons.mpr ⟨gx_k60, List.forall_mem_cons.mpr ⟨gx_k61, List.forall_mem_cons.mpr ⟨gx_k62, List.forall_mem_cons.mpr ⟨gx_k63, List.forall_mem_cons.mpr ⟨gx_k64, List.forall_mem_cons.mpr ⟨gx_k65, List.forall_mem_cons.mpr ⟨gx_k66, List.forall_mem_cons.mpr ⟨gx_k67, List.forall_mem_cons.mpr ⟨gx_k68, List.forall_mem_cons.mpr ⟨gx_k69, List.forall_mem_cons.mpr ⟨gx_k70, List.forall_mem_cons.mpr ⟨gx_k71, List.forall_mem_cons.mpr ⟨gx_k72, List.forall_mem_cons.mpr ⟨gx_k73, List.forall_mem_cons.mpr ⟨gx_k74, List.forall_mem_cons.mpr ⟨gx_k75, List.forall_mem_cons.mpr ⟨gx_k76, List.forall_mem_cons.mpr ⟨gx_k77, List.forall_mem_cons.mpr ⟨gx_k78, List.forall_mem_cons.mpr ⟨gx_k79, List.forall_mem_cons.mpr ⟨gx_k80, List.forall_mem_cons.mpr ⟨gx_k81, List.forall_mem_cons.mpr ⟨gx_k82, List.forall_mem_cons.mpr ⟨gx_k83, List.forall_mem_cons.mpr ⟨gx_k84, List.forall_mem_cons.mpr ⟨gx_k85, List.forall_mem_cons.mpr ⟨gx_k86, List.forall_mem_cons.mpr ⟨gx_k87, List.forall_mem_cons.mpr ⟨gx_k88, List.forall_mem_cons.mpr ⟨gx_k89, List.forall_mem_cons.mpr ⟨gx_k90, List.forall_mem_cons.mpr ⟨gx_k91, List.forall_mem_cons.mpr ⟨gx_k92, List.forall_mem_cons.mpr ⟨gx_k93, List.forall_mem_cons.mpr ⟨gx_k94, List.forall_mem_cons.mpr ⟨gx_k95, List.forall_mem_cons.mpr ⟨gx_k96, List.forall_mem_cons.mpr ⟨gx_k97, List.forall_mem_cons.mpr ⟨gx_k98, List.forall_mem_cons.mpr ⟨gx_k99, List.forall_mem_cons.mpr ⟨gx_k100, List.forall_mem_cons.mpr ⟨gx_k101, List.forall_mem_cons.mpr ⟨gx_k102, List.forall_mem_cons.mpr ⟨gx_k103, List.forall_mem_cons.mpr ⟨gx_k104, fun _ h => absurd h List.not_mem_nil⟩⟩⟩⟩⟩⟩⟩⟩⟩⟩⟩⟩⟩⟩⟩⟩⟩⟩⟩⟩⟩⟩⟩⟩⟩⟩⟩⟩⟩⟩⟩⟩⟩⟩⟩⟩⟩⟩⟩⟩⟩⟩⟩⟩⟩⟩⟩⟩⟩⟩⟩⟩⟩⟩⟩⟩⟩⟩⟩⟩⟩⟩⟩⟩⟩⟩⟩⟩⟩⟩⟩⟩⟩⟩⟩⟩⟩⟩⟩⟩⟩⟩⟩⟩⟩⟩⟩⟩⟩⟩⟩⟩⟩⟩⟩⟩⟩⟩⟩⟩⟩⟩⟩⟩⟩
theorem gx_kn {μ : Nat} (h : μ < 105) : Cond.code (gx_y μ) (gx_code μ) (gx_mL μ) (gx_ret μ) ∈ gx_TBL := by
  refine gx_kall (gx_m μ) ?_
  unfold gx_m
  rw [List.getD_eq_getElem?_getD, List.getElem?_eq_getElem (show μ < gx_mm.length from h)]
  exact List.getElem_mem _
end
section
/-! A machine over places: what a method does to numbers at places, as propositions; and why the machine does the same. -/
abbrev gx_M : Type := Nat → Nat → Int32
abbrev gx_X : Type := Launch × va_G × (Nat → Nat) × (FieldType → ClassId)
def gx_cv (ad : Nat → Nat) (v : Value) : Value := match v with
  | .ref p => .ref (ad p)
  | w => w
def gx_sv (ad : Nat → Nat) (f : Nat → Int32) (k : Nat) (o : Option Nat) : Value := match o with
  | none => .int (f k)
  | some q => .ref (ad q)
def gx_e (ad : Nat → Nat) (cA : FieldType → ClassId) (f : Nat → Int32) (x : gx_L) : va_E := match x with
  | .inl (ty, n) => .inl (cA ty, n, .inl f)
  | .inr (.inl (ci, sl)) => .inr (ci, sl.mapIdx (gx_sv ad f))
  | .inr (.inr qs) => .inl (cA (.array .int), qs.length, .inr (.inr (.inr (.inr (fun i => (qs[i]?).map ad)))))
def gx_ws (ad : Nat → Nat) (cA : FieldType → ClassId) (M : gx_M) : va_W := gx_Ly.mapIdx (fun p x => (ad p, gx_e ad cA (M p) x))
abbrev gx_tys (cA : FieldType → ClassId) : List (ClassId × FieldType) := [(cA .int, .int), (cA .boolean, .boolean), (cA (.array .int), .array .int)]
theorem gx_ws_at {ad : Nat → Nat} {cA : FieldType → ClassId} {M : gx_M} {p : Nat} {x : gx_L} (h : gx_at p = some x) : (gx_ws ad cA M)[p]? = some (ad p, gx_e ad cA (M p) x) := by
  unfold gx_ws
  rw [List.getElem?_mapIdx]
  unfold gx_at at h
  rw [h]
  rfl
theorem gx_ws_set {ad : Nat → Nat} {cA : FieldType → ClassId} {M : gx_M} {p : Nat} {x : gx_L} (h : gx_at p = some x) (f : Nat → Int32) : (gx_ws ad cA M).set p (ad p, gx_e ad cA f x) = gx_ws ad cA (va_up M p f) := by
  unfold gx_at at h
  apply List.ext_getElem?
  intro i
  unfold gx_ws
  by_cases hi : p = i
  · subst hi
    rw [List.getElem?_set_self (by rw [List.length_mapIdx]; exact (List.getElem?_eq_some_iff.mp h).1), List.getElem?_mapIdx, h]
    simp [va_up]
  · rw [List.getElem?_set_ne hi, List.getElem?_mapIdx, List.getElem?_mapIdx]
    have hne : ¬ i = p := fun z => hi z.symm
    have e : va_up M p f i = M i := by simp [va_up, hne]
    rw [e]
theorem gx_sl_set {ad : Nat → Nat} {f : Nat → Int32} {sl : List (Option Nat)} {k : Nat} (h : sl[k]? = some none) (x : Int32) : (sl.mapIdx (gx_sv ad f)).set k (.int x) = sl.mapIdx (gx_sv ad (upd f k x)) := by
  apply List.ext_getElem?
  intro i
  by_cases hi : k = i
  · subst hi
    rw [List.getElem?_set_self (by rw [List.length_mapIdx]; exact (List.getElem?_eq_some_iff.mp h).1), List.getElem?_mapIdx, h]
    simp [gx_sv, upd]
  · rw [List.getElem?_set_ne hi, List.getElem?_mapIdx, List.getElem?_mapIdx]
    cases hs : sl[i]? with
    | none => rfl
    | some o =>
      cases o with
      | none =>
        have hne : ¬ i = k := fun z => hi z.symm
        simp [gx_sv, upd, hne]
      | some q => rfl
def gx_lv (ad : Nat → Nat) (lo : List Value) : List (Nat × Value) := (lo.mapIdx (fun i v => (i, v))).filterMap (fun q => if q.2 = .null then none else some (q.1, gx_cv ad q.2))
theorem gx_lv_mem {ad : Nat → Nat} {lo : List Value} {q : Nat × Value} : q ∈ gx_lv ad lo ↔ ∃ v, lo[q.1]? = some v ∧ v ≠ .null ∧ q.2 = gx_cv ad v := by
  obtain ⟨i, w⟩ := q
  unfold gx_lv
  rw [List.mem_filterMap]
  constructor
  · rintro ⟨⟨j, v⟩, h1, h2⟩
    obtain ⟨k, hk⟩ := List.getElem?_of_mem h1
    rw [List.getElem?_mapIdx] at hk
    by_cases hv : v = .null
    · simp [hv] at h2
    · simp only [hv, if_false, Option.some.injEq, Prod.mk.injEq] at h2
      obtain ⟨rfl, rfl⟩ := h2
      cases hl : lo[k]? with
      | none => rw [hl] at hk; cases hk
      | some u =>
        rw [hl] at hk
        simp only [Option.map_some, Option.some.injEq, Prod.mk.injEq] at hk
        obtain ⟨rfl, rfl⟩ := hk
        exact ⟨_, hl, hv, rfl⟩
  · rintro ⟨v, h1, h2, h3⟩
    refine ⟨(i, v), ?_, ?_⟩
    · apply List.mem_of_getElem? (i := i)
      rw [List.getElem?_mapIdx, h1]
      rfl
    · have h4 : w = gx_cv ad v := h3
      simp only [h2, if_false, h4]
theorem gx_cv_cat (ad : Nat → Nat) (v : Value) : (gx_cv ad v).category = v.category := by cases v <;> rfl
theorem gx_lv_at {ad : Nat → Nat} {lo : List Value} {ls : Array Slot} {nL k : Nat} {v : Value} (h : lv_has ls nL (gx_lv ad lo)) (hv : lo.getD k .null = v) (hn : v ≠ .null) : ls[k]? = some (.val (gx_cv ad v)) := by
  refine h.2.2 (k, gx_cv ad v) (gx_lv_mem.mpr ⟨v, ?_, hn, rfl⟩)
  rw [List.getD_eq_getElem?_getD] at hv
  cases hl : lo[k]? with
  | none => rw [hl] at hv; exact absurd hv.symm hn
  | some u => rw [hl] at hv; exact congrArg some hv
theorem gx_lv_set {ad : Nat → Nat} {lo : List Value} {ls : Array Slot} {nL k : Nat} {v : Value} (hlo : ∀ v ∈ lo, v.category = 1) (hk : k < lo.length)
    (h : lv_has ls nL ((k, gx_cv ad v) :: (gx_lv ad lo).filter (fun q => !(q.1 == k) && !(q.1 + 1 == k && q.2.category == 2)))) : lv_has ls nL (gx_lv ad (lo.set k v)) := by
  refine ⟨h.1, h.2.1, fun q hq => h.2.2 q ?_⟩
  obtain ⟨w, h1, h2, h3⟩ := gx_lv_mem.mp hq
  by_cases hi : k = q.1
  · rw [← hi, List.getElem?_set_self hk] at h1
    cases h1
    obtain ⟨a, b⟩ := q
    dsimp only at hi h3
    subst hi; subst h3
    exact List.mem_cons_self
  · rw [List.getElem?_set_ne hi] at h1
    refine List.mem_cons_of_mem _ (List.mem_filter.mpr ⟨gx_lv_mem.mpr ⟨w, h1, h2, h3⟩, ?_⟩)
    have hc : q.2.category = 1 := by rw [h3, gx_cv_cat]; exact hlo w (List.mem_of_getElem? h1)
    have e1 : (q.1 == k) = false := by simpa using fun z => hi z.symm
    simp [e1, hc]
theorem gx_set_cat {lo : List Value} {k : Nat} {v : Value} (hlo : ∀ v ∈ lo, v.category = 1) (hv : v.category = 1) : ∀ w ∈ lo.set k v, w.category = 1 := by
  intro w hw
  rcases List.mem_or_eq_of_mem_set hw with h | h
  · exact hlo w h
  · rw [h]; exact hv
theorem gx_cons_cat {st : List Value} {v : Value} (hst : ∀ v ∈ st, v.category = 1) (hv : v.category = 1) : ∀ w ∈ v :: st, w.category = 1 := by
  intro w hw
  rcases List.mem_cons.mp hw with h | h
  · rw [h]; exact hv
  · exact hst w h
/-- a number is written at a place -/
def gx_w (M : gx_M) (p k : Nat) (x : Int32) : gx_M := fun q j => if q = p ∧ j = k then x else M q j
theorem gx_w_eq (M : gx_M) (p k : Nat) (x : Int32) : gx_w M p k x = va_up M p (upd (M p) k x) := by
  funext q j
  by_cases h : q = p
  · subst h
    simp [gx_w, va_up, upd]
  · simp [gx_w, va_up, h]
/-- a stretch is copied -/
def gx_cp (M : gx_M) (q0 q1 sp dp n : Nat) : gx_M := fun q j => if q = q1 ∧ dp ≤ j ∧ j < dp + n then M q0 (sp + (j - dp)) else M q j
theorem gx_cp_eq (M : gx_M) (q0 q1 sp dp n : Nat) : gx_cp M q0 q1 sp dp n = va_up M q1 (va_cpy (M q0) (M q1) sp dp n) := by
  funext q j
  by_cases h : q = q1
  · subst h
    simp [gx_cp, va_up, va_cpy]
  · simp [gx_cp, va_up, h]
/-- the form of an answer -/
def gx_shp (ret : Option FieldType) (v : Option Value) : Prop := match ret with
  | none => v = none
  | some .int => ∃ x, v = some (.int x)
  | some .boolean => ∃ x, v = some (.int x)
  | some (.array _) => ∃ q, v = some (.ref q)
  | _ => True
def gx_nx (ret : Option FieldType) (v : Option Value) (K : List Value → Prop) : Prop := match ret with
  | none => K []
  | some .int => ∀ x, v = some (.int x) → K [.int x]
  | some .boolean => ∀ x, v = some (.int x) → K [.int x]
  | some (.array _) => ∀ q, v = some (.ref q) → K [.ref q]
  | _ => False
theorem gx_nx_ok {ret : Option FieldType} {v : Option Value} {K : List Value → Prop} (h : gx_nx ret v K) (hs : gx_shp ret v) : K v.toList := by
  unfold gx_nx at h
  unfold gx_shp at hs
  split at h
  · subst hs; exact h
  · obtain ⟨x, rfl⟩ := hs; exact h x rfl
  · obtain ⟨x, rfl⟩ := hs; exact h x rfl
  · obtain ⟨x, rfl⟩ := hs; exact h x rfl
  · exact h.elim
/-- how a method ends -/
def gx_Q (X : gx_X) (ret : Option FieldType) (Post : Option Value → gx_M → Prop) (A : Nat → Prop) : Array Value → State → Outcome → State → Prop := fun _ st oc t =>
  (∃ (v : Option Value) (u : gx_M), oc = .returned (v.map (gx_cv X.2.2.1)) ∧ Post v u ∧ (gx_shp ret v ∧ ∀ w ∈ v.toList, w.category = 1) ∧ va_P X.2.1 gx_cl (gx_ws X.2.2.1 X.2.2.2 u) t.heap ∧ va_K X.2.1 gx_cl (gx_tys X.2.2.2) t ∧ va_D A (gx_ws X.2.2.1 X.2.2.2 u)) ∧ va_F A st t
/-- from here the method returns, with Post -/
def gx_OK (X : gx_X) (μ pc : Nat) (lo st : List Value) (M : gx_M) (Post : Option Value → gx_M → Prop) : Prop :=
  ∀ (p : Program) (e : Env) (s : State) (m : MethodId) (args : Array Value) (below : List Frame) (meth : Method) (c : Code) (A : Nat → Prop) (H : Heap) (locs : List Loc) (ls : Array Slot),
    CallFix p m c (gx_code μ) (gx_mL μ) s args (gx_wd μ) (gx_os (gx_on μ)) → meth.sig.returnType = gx_ret μ → meth.locks = false →
    va_K X.2.1 gx_cl (gx_tys X.2.2.2) s → va_P X.2.1 gx_cl (gx_ws X.2.2.1 X.2.2.2 M) H → va_D A (gx_ws X.2.2.1 X.2.2.2 M) → (∀ q, s.heap.size ≤ q → A q) → va_S A s.heap H locs →
    lo.length = gx_mL μ → (∀ v ∈ lo, v.category = 1) → (∀ v ∈ st, v.category = 1) → lv_has ls (gx_mL μ) (gx_lv X.2.2.1 lo) →
    W p X.1 e (headSpec (gx_wd μ) (gx_rm μ)).room s m args below meth c H locs 0 0 (MQ below (gx_Q X (gx_ret μ) Post A) args s 0 0 A) (F0 m pc ls (st.map (gx_cv X.2.2.1)))
/-- a call -/
def gx_C (X : gx_X) (μ : Nat) (as : List Value) (M : gx_M) (Post : Option Value → gx_M → Prop) : Prop := gx_OK X μ 0 (as ++ List.replicate (gx_mL μ - as.length) .null) [] M Post
def gx_cnd (c : Jvm.ClassFile.Cond) (x y : Int32) : Prop := match c with
  | .eq => x = y
  | .ne => ¬ x = y
  | .lt => x < y
  | .ge => y ≤ x
  | .gt => y < x
  | .le => x ≤ y
def gx_bl (x : Int32) : Prop := x = 0 ∨ x = 1
def gx_step (G : Nat → List Value → List Value → gx_M → Prop) (Cc : Nat → List Value → gx_M → (Option Value → gx_M → Prop) → Prop) (Post : Option Value → gx_M → Prop) (μ pc : Nat) (i : Instr) (t : Nat) (lo st : List Value) (M : gx_M) : Prop :=
  match i with
  | .aload_n k => match lo.getD k.val .null with
    | .ref q => G (pc + 1) lo (.ref q :: st) M
    | _ => False
  | .iload_n k => match lo.getD k.val .null with
    | .int x => G (pc + 1) lo (.int x :: st) M
    | _ => False
  | .aload k => match lo.getD k .null with
    | .ref q => G (pc + 2) lo (.ref q :: st) M
    | _ => False
  | .iload k => match lo.getD k .null with
    | .int x => G (pc + 2) lo (.int x :: st) M
    | _ => False
  | .astore_n k => match st with
    | .ref q :: st => k.val < lo.length ∧ G (pc + 1) (lo.set k.val (.ref q)) st M
    | _ => False
  | .istore_n k => match st with
    | .int x :: st => k.val < lo.length ∧ G (pc + 1) (lo.set k.val (.int x)) st M
    | _ => False
  | .istore k => match st with
    | .int x :: st => k < lo.length ∧ G (pc + 2) (lo.set k (.int x)) st M
    | _ => False
  | .iconst z => G (pc + 1) lo (.int (Int32.ofInt z) :: st) M
  | .bipush z => G (pc + 2) lo (.int (Int8.ofInt z).toInt32 :: st) M
  | .sipush z => G (pc + 3) lo (.int (Int16.ofInt z).toInt32 :: st) M
  | .ldc k => match gx_cn (gx_on μ) k with
    | some v => G (pc + 2) lo (.int v :: st) M
    | none => False
  | .iadd => match st with
    | .int y :: .int x :: st => G (pc + 1) lo (.int (x + y) :: st) M
    | _ => False
  | .isub => match st with
    | .int y :: .int x :: st => G (pc + 1) lo (.int (x - y) :: st) M
    | _ => False
  | .imul => match st with
    | .int y :: .int x :: st => G (pc + 1) lo (.int (x * y) :: st) M
    | _ => False
  | .idiv => match st with
    | .int y :: .int x :: st => (¬ y = 0) ∧ G (pc + 1) lo (.int (x / y) :: st) M
    | _ => False
  | .iand => match st with
    | .int y :: .int x :: st => G (pc + 1) lo (.int (x &&& y) :: st) M
    | _ => False
  | .ixor => match st with
    | .int y :: .int x :: st => G (pc + 1) lo (.int (x ^^^ y) :: st) M
    | _ => False
  | .ishr => match st with
    | .int y :: .int x :: st => G (pc + 1) lo (.int (x >>> (y &&& 31)) :: st) M
    | _ => False
  | .ineg => match st with
    | .int x :: st => G (pc + 1) lo (.int (-x) :: st) M
    | _ => False
  | .iinc k z => match lo.getD k .null with
    | .int x => k < lo.length ∧ G (pc + 3) (lo.set k (.int (x + Int32.ofInt z))) st M
    | _ => False
  | .dup => match st with
    | v :: st => G (pc + 1) lo (v :: v :: st) M
    | _ => False
  | .dup2 => match st with
    | v :: u :: st => G (pc + 1) lo (v :: u :: v :: u :: st) M
    | _ => False
  | .pop => match st with
    | _ :: st => G (pc + 1) lo st M
    | _ => False
  | .goto _ => G t lo st M
  | .ifCond c _ => match st with
    | .int x :: st => (gx_cnd c x 0 → G t lo st M) ∧ (¬ gx_cnd c x 0 → G (pc + 3) lo st M)
    | _ => False
  | .if_icmp c _ => match st with
    | .int y :: .int x :: st => (gx_cnd c x y → G t lo st M) ∧ (¬ gx_cnd c x y → G (pc + 3) lo st M)
    | _ => False
  | .getfield k => match st with
    | .ref p :: st => match gx_fl (gx_on μ) k, gx_at p with
      | some (ci, j), some (.inr (.inl (cj, sl))) => ci = cj ∧ match sl[j]? with
        | some none => G (pc + 3) lo (.int (M p j) :: st) M
        | some (some q) => G (pc + 3) lo (.ref q :: st) M
        | none => False
      | _, _ => False
    | _ => False
  | .putfield k => match st with
    | .int x :: .ref p :: st => match gx_fl (gx_on μ) k, gx_at p with
      | some (ci, j), some (.inr (.inl (cj, sl))) => ci = cj ∧ sl[j]? = some none ∧ (match gx_ty ci j with
        | .int => True
        | .boolean => gx_bl x
        | _ => False) ∧ G (pc + 3) lo st (gx_w M p j x)
      | _, _ => False
    | _ => False
  | .iaload => match st with
    | .int i :: .ref p :: st => match gx_at p with
      | some (.inl (.int, n)) => (0 ≤ i.toInt ∧ i.toInt < (n : Int)) ∧ G (pc + 1) lo (.int (M p i.toInt.toNat) :: st) M
      | _ => False
    | _ => False
  | .baload => match st with
    | .int i :: .ref p :: st => match gx_at p with
      | some (.inl (.boolean, n)) => (0 ≤ i.toInt ∧ i.toInt < (n : Int)) ∧ G (pc + 1) lo (.int (M p i.toInt.toNat) :: st) M
      | _ => False
    | _ => False
  | .iastore => match st with
    | .int x :: .int i :: .ref p :: st => match gx_at p with
      | some (.inl (.int, n)) => (0 ≤ i.toInt ∧ i.toInt < (n : Int)) ∧ G (pc + 1) lo st (gx_w M p i.toInt.toNat x)
      | _ => False
    | _ => False
  | .bastore => match st with
    | .int x :: .int i :: .ref p :: st => match gx_at p with
      | some (.inl (.boolean, n)) => gx_bl x ∧ (0 ≤ i.toInt ∧ i.toInt < (n : Int)) ∧ G (pc + 1) lo st (gx_w M p i.toInt.toNat x)
      | _ => False
    | _ => False
  | .aaload => match st with
    | .int i :: .ref p :: st => match gx_at p with
      | some (.inr (.inr qs)) => (0 ≤ i.toInt ∧ i.toInt < (qs.length : Int)) ∧ G (pc + 1) lo (.ref (qs.getD i.toInt.toNat 0) :: st) M
      | _ => False
    | _ => False
  | .arraylength => match st with
    | .ref p :: st => match gx_at p with
      | some (.inl (.int, n)) => G (pc + 1) lo (.int (Int32.ofNat n) :: st) M
      | _ => False
    | _ => False
  | .invokevirtual k => match gx_ml (gx_on μ) k with
    | some (ν, n, true) => match (st.take n).reverse with
      | .ref p :: as => match gx_at p with
        | some (.inr (.inl (cj, _))) => cj = gx_on ν ∧ n ≤ st.length ∧ st.length ≤ n + 8 ∧ Cc ν (.ref p :: as) M (fun r M1 => gx_nx (gx_ret ν) r (fun sr => G (pc + 3) lo (sr ++ st.drop n) M1))
        | _ => False
      | _ => False
    | _ => False
  | .invokestatic k => match gx_ml (gx_on μ) k with
    | some (ν, n, false) => n ≤ st.length ∧ st.length ≤ n + 8 ∧ Cc ν ((st.take n).reverse) M (fun r M1 => gx_nx (gx_ret ν) r (fun sr => G (pc + 3) lo (sr ++ st.drop n) M1))
    | some (_, _, true) => False
    | none => match gx_aT.lookup (gx_on μ, k), st with
      | some _, .int n :: .int dp :: .ref q1 :: .int sp :: .ref q0 :: st => match gx_at q0, gx_at q1 with
        | some (.inl (.int, n0)), some (.inl (.int, n1)) => st.length ≤ 8 ∧ (0 ≤ sp.toInt ∧ 0 ≤ dp.toInt ∧ 0 ≤ n.toInt ∧ sp.toInt + n.toInt ≤ (n0 : Int) ∧ dp.toInt + n.toInt ≤ (n1 : Int)) ∧ G (pc + 3) lo st (gx_cp M q0 q1 sp.toInt.toNat dp.toInt.toNat n.toInt.toNat)
        | _, _ => False
      | _, _ => False
  | .ireturn => match st with
    | [.int v] => (match gx_ret μ with
      | some .int => True
      | some .boolean => gx_bl v
      | _ => False) ∧ Post (some (.int v)) M
    | _ => False
  | .areturn => match st with
    | [.ref p] => (match gx_ret μ with
      | some (.array _) => True
      | _ => False) ∧ Post (some (.ref p)) M
    | _ => False
  | .return_ => match st with
    | [] => gx_ret μ = none ∧ Post none M
    | _ => False
  | _ => False
/-- the instructions from pc on, up to the next loop's head; at most n -/
def gx_wp (X : gx_X) (μ : Nat) (Post : Option Value → gx_M → Prop) : Nat → Bool → Nat → List Value → List Value → gx_M → Prop
  | 0, _, pc, lo, st, M => gx_OK X μ pc lo st M Post
  | n + 1, b, pc, lo, st, M => match gx_ins μ pc with
    | none => False
    | some (c, i, t) => if (b && c) = true then gx_OK X μ pc lo st M Post else gx_step (gx_wp X μ Post n true) (gx_C X) Post μ pc i t lo st M
end
section
/-! Soundness of gx_step. -/
theorem gx_ok_len {X : gx_X} {μ pc : Nat} {lo st : List Value} {M : gx_M} {Post : Option Value → gx_M → Prop} (h : lo.length = gx_mL μ → gx_OK X μ pc lo st M Post) : gx_OK X μ pc lo st M Post :=
  fun p e s m args below meth c A H locs ls C hr hlk hK hP hD hA hS hlen hlo hst hl => h hlen p e s m args below meth c A H locs ls C hr hlk hK hP hD hA hS hlen hlo hst hl
theorem gx_OK.mono {X : gx_X} {μ pc : Nat} {lo st : List Value} {M : gx_M} {P P' : Option Value → gx_M → Prop} (h : gx_OK X μ pc lo st M P) (hp : ∀ v M, P v M → P' v M) : gx_OK X μ pc lo st M P' := by
  intro p e s m args below meth c A H locs ls C hr hlk hK hP hD hA hS hlen hlo hst hl T hT XX
  obtain ⟨t, a1, o, b1, b2, ⟨⟨v, u, c1, c2, c3⟩, c4⟩, b4⟩ := h p e s m args below meth c A H locs ls C hr hlk hK hP hD hA hS hlen hlo hst hl T hT XX
  exact ⟨t, a1, o, b1, b2, ⟨⟨v, u, c1, hp v u c2, c3⟩, c4⟩, b4⟩
theorem gx_C.mono {X : gx_X} {μ : Nat} {as : List Value} {M : gx_M} {P P' : Option Value → gx_M → Prop} (h : gx_C X μ as M P) (hp : ∀ v M, P v M → P' v M) : gx_C X μ as M P' := gx_OK.mono h hp
theorem gx_link {μ k ci j : Nat} (h : gx_fl (gx_on μ) k = some (ci, j)) : ∃ C T N, gx_cl[ci]? = some (C, T, N) ∧ j < N ∧ Cond.fieldLink (gx_os (gx_on μ)) k (T j).1 (T j).2.1 (T j).2.2.1 ∈ gx_TBL := gx_fTok _ (gx_lookup h)
theorem gx_wd_in {μ : Nat} {w : Cond} (h : w ∈ gx_TBL) : w ∈ gx_wd μ := List.mem_cons_of_mem _ h
theorem gx_bl_nar {x : Int32} (h : gx_bl x) : narrow .boolean (.int x) = .int x ∧ fits .boolean (.int x) = true ∧ vp_nar .boolean x = x := by
  rcases h with rfl | rfl <;> decide +kernel
theorem gx_good : ∀ w ∈ gx_TBL, goodWord w = true := fun _ h => (List.mem_filter.mp h).2
theorem gx_goodIn {μ : Nat} {ws : List Cond} (h : ∀ w ∈ ws, w ∈ gx_TBL) : GoodIn (gx_wd μ) ws := fun w hw => ⟨gx_wd_in (h w hw), good_of_word (gx_good w (h w hw))⟩
theorem gx_lo_all {μ : Nat} {as : List Value} (has : ∀ v ∈ as, v.category = 1) : ∀ v ∈ as ++ List.replicate (gx_mL μ - as.length) Value.null, v.category = 1 := by
  intro v hv
  rcases List.mem_append.mp hv with h | h
  · exact has v h
  · rw [List.eq_of_mem_replicate h]; rfl
/-- the values of the arguments as the entry frame holds them -/
theorem gx_args_mem (ad : Nat → Nat) : ∀ (as : List Value) (n : Nat), (∀ v ∈ as, v.category = 1) → ∀ (i : Nat) (v : Value), as[i]? = some v → (n + i, gx_cv ad v) ∈ lv_args n (as.map (gx_cv ad))
  | [], n, _, i, v, h => by simp at h
  | a :: as, n, h, i, v, hi => by
    have ha : ¬ (gx_cv ad a).category = 2 := by rw [gx_cv_cat, h a List.mem_cons_self]; decide
    show _ ∈ (n, gx_cv ad a) :: lv_args (if (gx_cv ad a).category = 2 then n + 2 else n + 1) (as.map (gx_cv ad))
    rw [if_neg ha]
    cases i with
    | zero =>
      rw [List.getElem?_cons_zero] at hi
      cases hi
      exact List.mem_cons_self
    | succ i =>
      rw [List.getElem?_cons_succ] at hi
      have e := gx_args_mem ad as (n + 1) (fun v hv => h v (List.mem_cons_of_mem _ hv)) i v hi
      rw [show n + (i + 1) = n + 1 + i by omega]
      exact List.mem_cons_of_mem _ e
theorem gx_sl_len (ad : Nat → Nat) : ∀ (as : List Value), (∀ v ∈ as, v.category = 1) → (lg_sl (as.map (gx_cv ad))).length = as.length
  | [], _ => rfl
  | a :: as, h => by
    have e := gx_sl_len ad as (fun v hv => h v (List.mem_cons_of_mem _ hv))
    have ha : ¬ (gx_cv ad a).category = 2 := by rw [gx_cv_cat, h a List.mem_cons_self]; decide
    unfold lg_sl at e ⊢
    rw [List.map_cons, List.flatMap_cons, if_neg ha, List.length_append, e]
    simp [Nat.add_comm]
theorem gx_sum (ad : Nat → Nat) : ∀ (st : List Value), (∀ v ∈ st, v.category = 1) → ((st.map (gx_cv ad)).map fun v => v.category).sum = st.length
  | [], _ => rfl
  | a :: as, h => by
    have e := gx_sum ad as (fun v hv => h v (List.mem_cons_of_mem _ hv))
    rw [List.map_cons, List.map_cons, List.sum_cons, e, gx_cv_cat, h a List.mem_cons_self, List.length_cons]
    omega
/-- a method's contract -/
theorem gx_met {X : gx_X} {ν : Nat} {as : List Value} {M : gx_M} {P : Option Value → gx_M → Prop} (hν : ν < 105) (has : ∀ v ∈ as, v.category = 1) (hlen : as.length ≤ gx_mL ν) (h : gx_C X ν as M P) (sz : Nat) :
    Met X.1 (gx_y ν) (gx_wd ν) (gx_rm ν) (va_Pc (as.map (gx_cv X.2.2.1)) (fun U => U.heap.size = sz ∧ va_P X.2.1 gx_cl (gx_ws X.2.2.1 X.2.2.2 M) U.heap ∧ va_K X.2.1 gx_cl (gx_tys X.2.2.2) U ∧ va_D (fun _ => True) (gx_ws X.2.2.1 X.2.2.2 M))) (gx_Q X (gx_ret ν) P (va_A (gx_ws X.2.2.1 X.2.2.2 M) sz)) 0 0 (va_A (gx_ws X.2.2.1 X.2.2.2 M) sz) := by
  refine va_MetF (cc := gx_code ν) (maxL := gx_mL ν) (ret := gx_ret ν) (gx_pln ν hν) rfl ?_
  intro p e s m args below meth c s₁ B hml hv
  obtain ⟨rfl, hsz, hP, hK, hD0⟩ := hv
  subst hsz
  have hown : s.vm.findClass (gx_os (gx_on ν)) = some m.cls := by rw [← gx_own ν hν]; exact findClass_of_methodNamed B.named
  have hD := hD0.self (sz := s.heap.size)
  have hl := lv_entry (as.map (gx_cv X.2.2.1)) (n := gx_mL ν) (by rw [gx_sl_len _ _ has]; exact hlen)
  rw [lg_entry_eq]
  refine h p e s m _ below meth c (va_A (gx_ws X.2.2.1 X.2.2.2 M) s.heap.size) s.heap [] _ ⟨B.exec, B.bytes, hml, hown, atoms_spec (ws := gx_wd ν) B.pre⟩ B.returns B.notSynchronized hK hP hD (fun q hq => Or.inr hq) va_S.rf ?_ (gx_lo_all has) (fun v hv => absurd hv List.not_mem_nil) ⟨hl.1, hl.2.1, fun q hq => hl.2.2 q ?_⟩
  · rw [List.length_append, List.length_replicate]; omega
  · obtain ⟨v, h1, h2, h3⟩ := gx_lv_mem.mp hq
    have hi : as[q.1]? = some v := by
      by_cases hlt : q.1 < as.length
      · rwa [List.getElem?_append_left hlt] at h1
      · rw [List.getElem?_append_right (by omega)] at h1
        exact absurd (List.eq_of_mem_replicate (List.mem_of_getElem? h1)) h2
    have := gx_args_mem X.2.2.1 as 0 has q.1 v hi
    rw [Nat.zero_add, ← h3] at this
    exact this
section GXC
variable {p : Program} {e : Env} {R : Room} {s : State} {m : MethodId} {args : Array Value} {below : List Frame} {meth : Method} {c : Code} {H : Heap} {locs : List Loc} {Q : State → Prop} {pc : Nat} {ls : Array Slot} {rest st0 : List Value} {A A1 : Nat → Prop} {a : Array Value}
theorem gx_call {X : gx_X} {ret : Option FieldType} {P : Option Value → gx_M → Prop} (hr : va_Run p X.1 e R s m args below meth c H locs 0 0 0 0 (F0 m pc ls st0) rest (gx_Q X ret P A1 a) A1) (hS : va_S A s.heap H locs) (hA1 : ∀ q, A1 q → A q)
    (kk : ∀ (v : Option Value) (u : gx_M) (H1 : Heap) (locs1 : List Loc), P v u → (gx_shp ret v ∧ ∀ w ∈ v.toList, w.category = 1) → va_P X.2.1 gx_cl (gx_ws X.2.2.1 X.2.2.2 u) H1 → va_D A (gx_ws X.2.2.1 X.2.2.2 u) → va_S A s.heap H1 locs1 → W p X.1 e R s m args below meth c H1 locs1 0 0 Q (F0 m (pc + 3) ls ((v.map (gx_cv X.2.2.1)).toList ++ rest))) :
    W p X.1 e R s m args below meth c H locs 0 0 Q (F0 m pc ls st0) := by
  intro T hT XX
  obtain ⟨v, st₀, t, T', L, h0, X', hL, e1, e2, ⟨⟨v1, u, hv, hp, hcat, hP1, hK1, hD1⟩, hz, hk⟩, stp⟩ := hr T hT XX
  have hv : v = v1.map (gx_cv X.2.2.1) := by injection hv
  subst hv
  rw [h0] at hz hk
  obtain ⟨t2, a1, b1⟩ := kk v1 u T'.heap (locs ++ L) hp hcat (by rw [e1]; exact hP1) (hD1.weaken (fun _ _ _ z => hA1 _ z))
    ⟨Nat.le_trans hS.1 (by rw [e1]; exact hz), fun q h1 h2 => by rw [e1, hk q (Nat.lt_of_lt_of_le h1 hS.1) (fun z => h2 (hA1 q z))]; exact hS.2.1 q h1 h2, fun q hq => by
      rcases List.mem_append.mp hq with h | h
      · exact hS.2.2 q h
      · exact hA1 _ (hL q h)⟩ T' rfl X'
  exact ⟨t2, stp t2 a1, b1⟩
end GXC
theorem gx_blind {X : gx_X} {M : gx_M} {as : List Value} {sz : Nat} : FrameBlind (va_Pc as (fun U => U.heap.size = sz ∧ va_P X.2.1 gx_cl (gx_ws X.2.2.1 X.2.2.2 M) U.heap ∧ va_K X.2.1 gx_cl (gx_tys X.2.2.2) U ∧ va_D (fun _ => True) (gx_ws X.2.2.1 X.2.2.2 M))) :=
  fun a U g mk q => by obtain ⟨q0, q1, qP, qK, qD⟩ := q; exact ⟨q0, q1, qP, va_K.moved (u := U) (U := U.calling g mk a) (Vm.Alike.refl U.vm) qK, qD⟩
theorem gx_freeA {X : gx_X} {M : gx_M} {A : Nat → Prop} {H0 H : Heap} {locs : List Loc} (hD : va_D A (gx_ws X.2.2.1 X.2.2.2 M)) (hS : va_S A H0 H locs) (hA : ∀ q, H0.size ≤ q → A q) : ∀ q, va_A (gx_ws X.2.2.1 X.2.2.2 M) H.size q → A q := by
  intro q h
  rcases h with ⟨k, e, h⟩ | h
  · exact hD.2 k (q, e) h
  · exact hA q (Nat.le_trans hS.1 h)
theorem gx_ml_ok {μ k ν n : Nat} {b : Bool} (h : gx_ml (gx_on μ) k = some (ν, n, b)) : gx_mok ((gx_on μ, k), (ν, n, b)) := gx_mTok _ (gx_lookup h)
theorem gx_take {st : List Value} {n : Nat} (h : n ≤ st.length) : st = ((st.take n).reverse).reverse ++ st.drop n := by rw [List.reverse_reverse, List.take_append_drop]
set_option maxHeartbeats 8000000 in
set_option maxRecDepth 100000 in
theorem gx_sound {G : Nat → List Value → List Value → gx_M → Prop} {X : gx_X} {μ pc : Nat} {b : Bool} {i : Instr} {t : Nat} {lo st : List Value} {M : gx_M} {Post : Option Value → gx_M → Prop} (hi : gx_ins μ pc = some (b, i, t))
    (hG : ∀ (pc : Nat) (lo st : List Value) (M : gx_M), G pc lo st M → gx_OK X μ pc lo st M Post) (h : gx_step G (gx_C X) Post μ pc i t lo st M) : gx_OK X μ pc lo st M Post := by
  obtain ⟨hd, hj, hrk⟩ := gx_dec hi
  cases i
  case aload_n k =>
    dsimp only [gx_step] at h
    split at h
    · rename_i x hq
      intro p e s m args below meth c A H locs ls C hr hlk hK hP hD hA hS hlen hlo hst hl
      refine lv_aload_n C.1 C.2.1 hd rfl (gx_lv_at hl hq (fun z => by cases z)) ?_
      exact hG _ _ _ _ h p e s m args below meth c A H locs ls C hr hlk hK hP hD hA hS hlen hlo (gx_cons_cat hst rfl) hl
    · exact h.elim
  case iload_n k =>
    dsimp only [gx_step] at h
    split at h
    · rename_i x hq
      intro p e s m args below meth c A H locs ls C hr hlk hK hP hD hA hS hlen hlo hst hl
      refine lv_iload_n C.1 C.2.1 hd rfl (gx_lv_at hl hq (fun z => by cases z)) ?_
      exact hG _ _ _ _ h p e s m args below meth c A H locs ls C hr hlk hK hP hD hA hS hlen hlo (gx_cons_cat hst rfl) hl
    · exact h.elim
  case aload k =>
    dsimp only [gx_step] at h
    split at h
    · rename_i x hq
      intro p e s m args below meth c A H locs ls C hr hlk hK hP hD hA hS hlen hlo hst hl
      refine lv_aload C.1 C.2.1 hd (gx_lv_at hl hq (fun z => by cases z)) ?_
      exact hG _ _ _ _ h p e s m args below meth c A H locs ls C hr hlk hK hP hD hA hS hlen hlo (gx_cons_cat hst rfl) hl
    · exact h.elim
  case iload k =>
    dsimp only [gx_step] at h
    split at h
    · rename_i x hq
      intro p e s m args below meth c A H locs ls C hr hlk hK hP hD hA hS hlen hlo hst hl
      refine lv_iload C.1 C.2.1 hd (gx_lv_at hl hq (fun z => by cases z)) ?_
      exact hG _ _ _ _ h p e s m args below meth c A H locs ls C hr hlk hK hP hD hA hS hlen hlo (gx_cons_cat hst rfl) hl
    · exact h.elim
  case astore_n k =>
    dsimp only [gx_step] at h
    split at h
    · rename_i x st1
      obtain ⟨hk, h⟩ := h
      intro p e s m args below meth c A H locs ls C hr hlk hK hP hD hA hS hlen hlo hst hl
      refine lv_astore_n C.1 C.2.1 hd rfl hl (by rw [← hlen]; exact hk) rfl (fun ls1 hl1 => ?_)
      exact hG _ _ _ _ h p e s m args below meth c A H locs ls1 C hr hlk hK hP hD hA hS (by rw [List.length_set]; exact hlen) (gx_set_cat hlo rfl) (fun v hv => hst v (List.mem_cons_of_mem _ hv)) (gx_lv_set hlo hk hl1)
    · exact h.elim
  case istore_n k =>
    dsimp only [gx_step] at h
    split at h
    · rename_i x st1
      obtain ⟨hk, h⟩ := h
      intro p e s m args below meth c A H locs ls C hr hlk hK hP hD hA hS hlen hlo hst hl
      refine lv_istore_n C.1 C.2.1 hd rfl hl (by rw [← hlen]; exact hk) rfl (fun ls1 hl1 => ?_)
      exact hG _ _ _ _ h p e s m args below meth c A H locs ls1 C hr hlk hK hP hD hA hS (by rw [List.length_set]; exact hlen) (gx_set_cat hlo rfl) (fun v hv => hst v (List.mem_cons_of_mem _ hv)) (gx_lv_set hlo hk hl1)
    · exact h.elim
  case istore k =>
    dsimp only [gx_step] at h
    split at h
    · rename_i x st1
      obtain ⟨hk, h⟩ := h
      intro p e s m args below meth c A H locs ls C hr hlk hK hP hD hA hS hlen hlo hst hl
      refine lv_istore C.1 C.2.1 hd hl (by rw [← hlen]; exact hk) rfl (fun ls1 hl1 => ?_)
      exact hG _ _ _ _ h p e s m args below meth c A H locs ls1 C hr hlk hK hP hD hA hS (by rw [List.length_set]; exact hlen) (gx_set_cat hlo rfl) (fun v hv => hst v (List.mem_cons_of_mem _ hv)) (gx_lv_set hlo hk hl1)
    · exact h.elim
  case iconst z =>
    dsimp only [gx_step] at h
    intro p e s m args below meth c A H locs ls C hr hlk hK hP hD hA hS hlen hlo hst hl
    refine lv_iconst C.1 C.2.1 hd rfl ?_
    exact hG _ _ _ _ h p e s m args below meth c A H locs ls C hr hlk hK hP hD hA hS hlen hlo (gx_cons_cat hst rfl) hl
  case bipush z =>
    dsimp only [gx_step] at h
    intro p e s m args below meth c A H locs ls C hr hlk hK hP hD hA hS hlen hlo hst hl
    refine lv_bipush C.1 C.2.1 hd rfl ?_
    exact hG _ _ _ _ h p e s m args below meth c A H locs ls C hr hlk hK hP hD hA hS hlen hlo (gx_cons_cat hst rfl) hl
  case sipush z =>
    dsimp only [gx_step] at h
    intro p e s m args below meth c A H locs ls C hr hlk hK hP hD hA hS hlen hlo hst hl
    refine lv_sipush C.1 C.2.1 hd rfl ?_
    exact hG _ _ _ _ h p e s m args below meth c A H locs ls C hr hlk hK hP hD hA hS hlen hlo (gx_cons_cat hst rfl) hl
  case ldc k =>
    dsimp only [gx_step] at h
    split at h
    · rename_i v hq
      intro p e s m args below meth c A H locs ls C hr hlk hK hP hD hA hS hlen hlo hst hl
      refine lv_ldc C.1 C.2.1 C.2.2.2.1 (C.2.2.2.2 _ (gx_wd_in (gx_cTok _ (gx_lookup hq)))) hd ?_
      exact hG _ _ _ _ h p e s m args below meth c A H locs ls C hr hlk hK hP hD hA hS hlen hlo (gx_cons_cat hst rfl) hl
    · exact h.elim
  case iadd =>
    dsimp only [gx_step] at h
    split at h
    · rename_i y x st1
      intro p e s m args below meth c A H locs ls C hr hlk hK hP hD hA hS hlen hlo hst hl
      refine lv_iadd C.1 C.2.1 hd ?_
      exact hG _ _ _ _ h p e s m args below meth c A H locs ls C hr hlk hK hP hD hA hS hlen hlo (gx_cons_cat (fun v hv => hst v (List.mem_cons_of_mem _ (List.mem_cons_of_mem _ hv))) rfl) hl
    · exact h.elim
  case isub =>
    dsimp only [gx_step] at h
    split at h
    · rename_i y x st1
      intro p e s m args below meth c A H locs ls C hr hlk hK hP hD hA hS hlen hlo hst hl
      refine lv_isub C.1 C.2.1 hd ?_
      exact hG _ _ _ _ h p e s m args below meth c A H locs ls C hr hlk hK hP hD hA hS hlen hlo (gx_cons_cat (fun v hv => hst v (List.mem_cons_of_mem _ (List.mem_cons_of_mem _ hv))) rfl) hl
    · exact h.elim
  case imul =>
    dsimp only [gx_step] at h
    split at h
    · rename_i y x st1
      intro p e s m args below meth c A H locs ls C hr hlk hK hP hD hA hS hlen hlo hst hl
      refine lv_imul C.1 C.2.1 hd ?_
      exact hG _ _ _ _ h p e s m args below meth c A H locs ls C hr hlk hK hP hD hA hS hlen hlo (gx_cons_cat (fun v hv => hst v (List.mem_cons_of_mem _ (List.mem_cons_of_mem _ hv))) rfl) hl
    · exact h.elim
  case iand =>
    dsimp only [gx_step] at h
    split at h
    · rename_i y x st1
      intro p e s m args below meth c A H locs ls C hr hlk hK hP hD hA hS hlen hlo hst hl
      refine lv_iand C.1 C.2.1 hd ?_
      exact hG _ _ _ _ h p e s m args below meth c A H locs ls C hr hlk hK hP hD hA hS hlen hlo (gx_cons_cat (fun v hv => hst v (List.mem_cons_of_mem _ (List.mem_cons_of_mem _ hv))) rfl) hl
    · exact h.elim
  case ixor =>
    dsimp only [gx_step] at h
    split at h
    · rename_i y x st1
      intro p e s m args below meth c A H locs ls C hr hlk hK hP hD hA hS hlen hlo hst hl
      refine lv_ixor C.1 C.2.1 hd ?_
      exact hG _ _ _ _ h p e s m args below meth c A H locs ls C hr hlk hK hP hD hA hS hlen hlo (gx_cons_cat (fun v hv => hst v (List.mem_cons_of_mem _ (List.mem_cons_of_mem _ hv))) rfl) hl
    · exact h.elim
  case ishr =>
    dsimp only [gx_step] at h
    split at h
    · rename_i y x st1
      intro p e s m args below meth c A H locs ls C hr hlk hK hP hD hA hS hlen hlo hst hl
      refine lv_ishr C.1 C.2.1 hd ?_
      exact hG _ _ _ _ h p e s m args below meth c A H locs ls C hr hlk hK hP hD hA hS hlen hlo (gx_cons_cat (fun v hv => hst v (List.mem_cons_of_mem _ (List.mem_cons_of_mem _ hv))) rfl) hl
    · exact h.elim
  case idiv =>
    dsimp only [gx_step] at h
    split at h
    · rename_i y x st1
      obtain ⟨hne, h⟩ := h
      intro p e s m args below meth c A H locs ls C hr hlk hK hP hD hA hS hlen hlo hst hl
      refine lv_idiv C.1 C.2.1 hd hne ?_
      exact hG _ _ _ _ h p e s m args below meth c A H locs ls C hr hlk hK hP hD hA hS hlen hlo (gx_cons_cat (fun v hv => hst v (List.mem_cons_of_mem _ (List.mem_cons_of_mem _ hv))) rfl) hl
    · exact h.elim
  case ineg =>
    dsimp only [gx_step] at h
    split at h
    · rename_i x st1
      intro p e s m args below meth c A H locs ls C hr hlk hK hP hD hA hS hlen hlo hst hl
      refine lv_ineg C.1 C.2.1 hd ?_
      exact hG _ _ _ _ h p e s m args below meth c A H locs ls C hr hlk hK hP hD hA hS hlen hlo (gx_cons_cat (fun v hv => hst v (List.mem_cons_of_mem _ hv)) rfl) hl
    · exact h.elim
  case iinc k z =>
    dsimp only [gx_step] at h
    split at h
    · rename_i x hq
      obtain ⟨hk, h⟩ := h
      intro p e s m args below meth c A H locs ls C hr hlk hK hP hD hA hS hlen hlo hst hl
      have hm : (k, Value.int x) ∈ gx_lv X.2.2.1 lo := gx_lv_mem.mpr ⟨.int x, by rw [List.getD_eq_getElem?_getD, List.getElem?_eq_getElem hk] at hq; rw [List.getElem?_eq_getElem hk]; exact congrArg some hq, (fun z => by cases z), rfl⟩
      obtain ⟨j, hjm⟩ := List.getElem?_of_mem hm
      refine lv_iinc (k := j) C.1 C.2.1 hd hl hjm rfl (by rw [← hlen]; exact hk) rfl (fun ls1 hl1 => ?_)
      exact hG _ _ _ _ h p e s m args below meth c A H locs ls1 C hr hlk hK hP hD hA hS (by rw [List.length_set]; exact hlen) (gx_set_cat hlo rfl) hst (gx_lv_set hlo hk hl1)
    · exact h.elim
  case dup =>
    dsimp only [gx_step] at h
    split at h
    · rename_i v st1
      intro p e s m args below meth c A H locs ls C hr hlk hK hP hD hA hS hlen hlo hst hl
      refine lv_dup C.1 C.2.1 hd (by rw [gx_cv_cat]; exact hst v List.mem_cons_self) ?_
      exact hG _ _ _ _ h p e s m args below meth c A H locs ls C hr hlk hK hP hD hA hS hlen hlo (gx_cons_cat hst (hst v List.mem_cons_self)) hl
    · exact h.elim
  case dup2 =>
    dsimp only [gx_step] at h
    split at h
    · rename_i v u st1
      intro p e s m args below meth c A H locs ls C hr hlk hK hP hD hA hS hlen hlo hst hl
      refine lv_dup2_11 C.1 C.2.1 hd (by rw [gx_cv_cat]; exact hst v List.mem_cons_self) (by rw [gx_cv_cat]; exact hst u (List.mem_cons_of_mem _ List.mem_cons_self)) ?_
      exact hG _ _ _ _ h p e s m args below meth c A H locs ls C hr hlk hK hP hD hA hS hlen hlo (gx_cons_cat (gx_cons_cat hst (hst u (List.mem_cons_of_mem _ List.mem_cons_self))) (hst v List.mem_cons_self)) hl
    · exact h.elim
  case pop =>
    dsimp only [gx_step] at h
    split at h
    · rename_i v st1
      intro p e s m args below meth c A H locs ls C hr hlk hK hP hD hA hS hlen hlo hst hl
      refine lv_pop C.1 C.2.1 hd (by rw [gx_cv_cat]; exact hst v List.mem_cons_self) ?_
      exact hG _ _ _ _ h p e s m args below meth c A H locs ls C hr hlk hK hP hD hA hS hlen hlo (fun v hv => hst v (List.mem_cons_of_mem _ hv)) hl
    · exact h.elim
  case goto d =>
    dsimp only [gx_step] at h
    have hj2 : (pc : Int) + d = (t : Int) := of_decide_eq_true hj
    intro p e s m args below meth c A H locs ls C hr hlk hK hP hD hA hS hlen hlo hst hl
    refine lv_goto C.1 C.2.1 hd hj2 ?_
    exact hG _ _ _ _ h p e s m args below meth c A H locs ls C hr hlk hK hP hD hA hS hlen hlo hst hl
  case ifCond cc d =>
    dsimp only [gx_step] at h
    have hj2 : (pc : Int) + d = (t : Int) := of_decide_eq_true hj
    split at h
    · rename_i x st1
      obtain ⟨h1, h2⟩ := h
      intro p e s m args below meth c A H locs ls C hr hlk hK hP hD hA hS hlen hlo hst hl
      cases cc <;> dsimp only [gx_cnd] at h1 h2
      · refine lv_if_eq C.1 C.2.1 hd hj2 (fun q => ?_) (fun q => ?_)
        · exact hG _ _ _ _ (h1 q) p e s m args below meth c A H locs ls C hr hlk hK hP hD hA hS hlen hlo (fun v hv => hst v (List.mem_cons_of_mem _ hv)) hl
        · exact hG _ _ _ _ (h2 q) p e s m args below meth c A H locs ls C hr hlk hK hP hD hA hS hlen hlo (fun v hv => hst v (List.mem_cons_of_mem _ hv)) hl
      · refine lv_if_ne C.1 C.2.1 hd hj2 (fun q => ?_) (fun q => ?_)
        · exact hG _ _ _ _ (h1 q) p e s m args below meth c A H locs ls C hr hlk hK hP hD hA hS hlen hlo (fun v hv => hst v (List.mem_cons_of_mem _ hv)) hl
        · exact hG _ _ _ _ (h2 (fun z => z q)) p e s m args below meth c A H locs ls C hr hlk hK hP hD hA hS hlen hlo (fun v hv => hst v (List.mem_cons_of_mem _ hv)) hl
      · refine lv_if_lt C.1 C.2.1 hd hj2 (fun q => ?_) (fun q => ?_)
        · exact hG _ _ _ _ (h1 q) p e s m args below meth c A H locs ls C hr hlk hK hP hD hA hS hlen hlo (fun v hv => hst v (List.mem_cons_of_mem _ hv)) hl
        · exact hG _ _ _ _ (h2 q) p e s m args below meth c A H locs ls C hr hlk hK hP hD hA hS hlen hlo (fun v hv => hst v (List.mem_cons_of_mem _ hv)) hl
      · refine lv_if_ge C.1 C.2.1 hd hj2 (fun q => ?_) (fun q => ?_)
        · exact hG _ _ _ _ (h1 q) p e s m args below meth c A H locs ls C hr hlk hK hP hD hA hS hlen hlo (fun v hv => hst v (List.mem_cons_of_mem _ hv)) hl
        · exact hG _ _ _ _ (h2 q) p e s m args below meth c A H locs ls C hr hlk hK hP hD hA hS hlen hlo (fun v hv => hst v (List.mem_cons_of_mem _ hv)) hl
      · refine lv_if_gt C.1 C.2.1 hd hj2 (fun q => ?_) (fun q => ?_)
        · exact hG _ _ _ _ (h1 q) p e s m args below meth c A H locs ls C hr hlk hK hP hD hA hS hlen hlo (fun v hv => hst v (List.mem_cons_of_mem _ hv)) hl
        · exact hG _ _ _ _ (h2 q) p e s m args below meth c A H locs ls C hr hlk hK hP hD hA hS hlen hlo (fun v hv => hst v (List.mem_cons_of_mem _ hv)) hl
      · refine lv_if_le C.1 C.2.1 hd hj2 (fun q => ?_) (fun q => ?_)
        · exact hG _ _ _ _ (h1 q) p e s m args below meth c A H locs ls C hr hlk hK hP hD hA hS hlen hlo (fun v hv => hst v (List.mem_cons_of_mem _ hv)) hl
        · exact hG _ _ _ _ (h2 q) p e s m args below meth c A H locs ls C hr hlk hK hP hD hA hS hlen hlo (fun v hv => hst v (List.mem_cons_of_mem _ hv)) hl
    · exact h.elim
  case if_icmp cc d =>
    dsimp only [gx_step] at h
    have hj2 : (pc : Int) + d = (t : Int) := of_decide_eq_true hj
    split at h
    · rename_i y x st1
      obtain ⟨h1, h2⟩ := h
      intro p e s m args below meth c A H locs ls C hr hlk hK hP hD hA hS hlen hlo hst hl
      cases cc <;> dsimp only [gx_cnd] at h1 h2
      · refine lv_icmp_eq C.1 C.2.1 hd hj2 (fun q => ?_) (fun q => ?_)
        · exact hG _ _ _ _ (h1 q) p e s m args below meth c A H locs ls C hr hlk hK hP hD hA hS hlen hlo (fun v hv => hst v (List.mem_cons_of_mem _ (List.mem_cons_of_mem _ hv))) hl
        · exact hG _ _ _ _ (h2 q) p e s m args below meth c A H locs ls C hr hlk hK hP hD hA hS hlen hlo (fun v hv => hst v (List.mem_cons_of_mem _ (List.mem_cons_of_mem _ hv))) hl
      · refine lv_icmp_ne C.1 C.2.1 hd hj2 (fun q => ?_) (fun q => ?_)
        · exact hG _ _ _ _ (h1 q) p e s m args below meth c A H locs ls C hr hlk hK hP hD hA hS hlen hlo (fun v hv => hst v (List.mem_cons_of_mem _ (List.mem_cons_of_mem _ hv))) hl
        · exact hG _ _ _ _ (h2 (fun z => z q)) p e s m args below meth c A H locs ls C hr hlk hK hP hD hA hS hlen hlo (fun v hv => hst v (List.mem_cons_of_mem _ (List.mem_cons_of_mem _ hv))) hl
      · refine lv_icmp_lt C.1 C.2.1 hd hj2 (fun q => ?_) (fun q => ?_)
        · exact hG _ _ _ _ (h1 q) p e s m args below meth c A H locs ls C hr hlk hK hP hD hA hS hlen hlo (fun v hv => hst v (List.mem_cons_of_mem _ (List.mem_cons_of_mem _ hv))) hl
        · exact hG _ _ _ _ (h2 q) p e s m args below meth c A H locs ls C hr hlk hK hP hD hA hS hlen hlo (fun v hv => hst v (List.mem_cons_of_mem _ (List.mem_cons_of_mem _ hv))) hl
      · refine lv_icmp_ge C.1 C.2.1 hd hj2 (fun q => ?_) (fun q => ?_)
        · exact hG _ _ _ _ (h1 q) p e s m args below meth c A H locs ls C hr hlk hK hP hD hA hS hlen hlo (fun v hv => hst v (List.mem_cons_of_mem _ (List.mem_cons_of_mem _ hv))) hl
        · exact hG _ _ _ _ (h2 q) p e s m args below meth c A H locs ls C hr hlk hK hP hD hA hS hlen hlo (fun v hv => hst v (List.mem_cons_of_mem _ (List.mem_cons_of_mem _ hv))) hl
      · refine lv_icmp_gt C.1 C.2.1 hd hj2 (fun q => ?_) (fun q => ?_)
        · exact hG _ _ _ _ (h1 q) p e s m args below meth c A H locs ls C hr hlk hK hP hD hA hS hlen hlo (fun v hv => hst v (List.mem_cons_of_mem _ (List.mem_cons_of_mem _ hv))) hl
        · exact hG _ _ _ _ (h2 q) p e s m args below meth c A H locs ls C hr hlk hK hP hD hA hS hlen hlo (fun v hv => hst v (List.mem_cons_of_mem _ (List.mem_cons_of_mem _ hv))) hl
      · refine lv_icmp_le C.1 C.2.1 hd hj2 (fun q => ?_) (fun q => ?_)
        · exact hG _ _ _ _ (h1 q) p e s m args below meth c A H locs ls C hr hlk hK hP hD hA hS hlen hlo (fun v hv => hst v (List.mem_cons_of_mem _ (List.mem_cons_of_mem _ hv))) hl
        · exact hG _ _ _ _ (h2 q) p e s m args below meth c A H locs ls C hr hlk hK hP hD hA hS hlen hlo (fun v hv => hst v (List.mem_cons_of_mem _ (List.mem_cons_of_mem _ hv))) hl
    · exact h.elim
  case getfield k =>
    dsimp only [gx_step] at h
    split at h
    · rename_i p0 st1
      split at h
      · rename_i ci j cj sl hf ha
        obtain ⟨rfl, h⟩ := h
        obtain ⟨C1, T, N, hc, hjN, hlk1⟩ := gx_link hf
        split at h
        · rename_i hs
          intro p e s m args below meth c A H locs ls C hr hlk hK hP hD hA hS hlen hlo hst hl
          refine va_get (D := X.2.1) (ci := ci) (v := .int (M p0 j)) C.1 C.2.1 C.2.2.2.2 (fun w hw => gx_wd_in (gx_lays ci _ hc w hw)) C.2.2.2.1 hK hP p0 (fs := sl.mapIdx (gx_sv X.2.2.1 (M p0))) (gx_ws_at ha) hc j hjN (C.2.2.2.2 _ (gx_wd_in hlk1)) (fun _ z => z) (by rw [List.getElem?_mapIdx, hs]; rfl) hd ?_
          exact hG _ _ _ _ h p e s m args below meth c A H locs ls C hr hlk hK hP hD hA hS hlen hlo (gx_cons_cat (fun v hv => hst v (List.mem_cons_of_mem _ hv)) rfl) hl
        · rename_i q hs
          intro p e s m args below meth c A H locs ls C hr hlk hK hP hD hA hS hlen hlo hst hl
          refine va_get (D := X.2.1) (ci := ci) (v := .ref (X.2.2.1 q)) C.1 C.2.1 C.2.2.2.2 (fun w hw => gx_wd_in (gx_lays ci _ hc w hw)) C.2.2.2.1 hK hP p0 (fs := sl.mapIdx (gx_sv X.2.2.1 (M p0))) (gx_ws_at ha) hc j hjN (C.2.2.2.2 _ (gx_wd_in hlk1)) (fun _ z => z) (by rw [List.getElem?_mapIdx, hs]; rfl) hd ?_
          exact hG _ _ _ _ h p e s m args below meth c A H locs ls C hr hlk hK hP hD hA hS hlen hlo (gx_cons_cat (fun v hv => hst v (List.mem_cons_of_mem _ hv)) rfl) hl
        · exact h.elim
      · exact h.elim
    · exact h.elim
  case putfield k =>
    dsimp only [gx_step] at h
    split at h
    · rename_i x p0 st1
      split at h
      · rename_i ci j cj sl hf ha
        obtain ⟨rfl, hs, hty, h⟩ := h
        obtain ⟨C1, T, N, hc, hjN, hlk1⟩ := gx_link hf
        have hx : (gx_ty ci j = .int ∨ gx_ty ci j = .boolean) ∧ narrow (gx_ty ci j) (.int x) = .int x ∧ fits (gx_ty ci j) (.int x) = true := by
          split at hty
          · rename_i e1
            rw [e1]
            exact ⟨Or.inl rfl, rfl, rfl⟩
          · rename_i e1
            rw [e1]
            exact ⟨Or.inr rfl, (gx_bl_nar hty).1, (gx_bl_nar hty).2.1⟩
          · exact hty.elim
        intro p e s m args below meth c A H locs ls C hr hlk hK hP hD hA hS hlen hlo hst hl
        refine va_put (D := X.2.1) (ci := ci) (v := .int x) (ty := gx_ty ci j) C.1 C.2.1 C.2.2.2.2 (fun w hw => gx_wd_in (gx_lays ci _ hc w hw)) (gx_ty ci) (gx_tys_ok ci _ hc).1 (gx_tys_ok ci _ hc).2 C.2.2.2.1 hK hP hD hS p0 (fs := sl.mapIdx (gx_sv X.2.2.1 (M p0))) (gx_ws_at ha) hc j hjN (C.2.2.2.2 _ (gx_wd_in hlk1)) (fun _ z => z) (gx_nf ci _ hc j hjN hx.1) ((gx_tys_ok ci _ hc).1 j hjN) hx.2.1 hx.2.2 (by rw [List.length_mapIdx]; exact (List.getElem?_eq_some_iff.mp hs).1) hd (fun H1 locs1 hP1 hD1 hS1 => ?_)
        rw [gx_sl_set hs x] at hP1 hD1
        have e2 := gx_ws_set (ad := X.2.2.1) (cA := X.2.2.2) (M := M) ha (upd (M p0) j x)
        have hP2 : va_P X.2.1 gx_cl (gx_ws X.2.2.1 X.2.2.2 (gx_w M p0 j x)) H1 := by rw [gx_w_eq, ← e2]; exact hP1
        have hD2 : va_D A (gx_ws X.2.2.1 X.2.2.2 (gx_w M p0 j x)) := by rw [gx_w_eq, ← e2]; exact hD1
        exact hG _ _ _ _ h p e s m args below meth c A H1 locs1 ls C hr hlk hK hP2 hD2 hA hS1 hlen hlo (fun v hv => hst v (List.mem_cons_of_mem _ (List.mem_cons_of_mem _ hv))) hl
      · exact h.elim
    · exact h.elim
  case iaload =>
    dsimp only [gx_step] at h
    split at h
    · rename_i i p0 st1
      split at h
      · rename_i n ha
        obtain ⟨hin0, h⟩ := h
        have hin : vp_in i n := vp_in_iff.mpr hin0
        intro p e s m args below meth c A H locs ls C hr hlk hK hP hD hA hS hlen hlo hst hl
        refine va_iald C.1 C.2.1 hK hP p0 0 (f := M p0) (gx_ws_at ha) rfl hin hd ?_
        exact hG _ _ _ _ h p e s m args below meth c A H locs ls C hr hlk hK hP hD hA hS hlen hlo (gx_cons_cat (fun v hv => hst v (List.mem_cons_of_mem _ (List.mem_cons_of_mem _ hv))) rfl) hl
      · exact h.elim
    · exact h.elim
  case baload =>
    dsimp only [gx_step] at h
    split at h
    · rename_i i p0 st1
      split at h
      · rename_i n ha
        obtain ⟨hin0, h⟩ := h
        have hin : vp_in i n := vp_in_iff.mpr hin0
        intro p e s m args below meth c A H locs ls C hr hlk hK hP hD hA hS hlen hlo hst hl
        refine va_zald C.1 C.2.1 hK hP p0 1 (f := M p0) (gx_ws_at ha) rfl hin hd ?_
        exact hG _ _ _ _ h p e s m args below meth c A H locs ls C hr hlk hK hP hD hA hS hlen hlo (gx_cons_cat (fun v hv => hst v (List.mem_cons_of_mem _ (List.mem_cons_of_mem _ hv))) rfl) hl
      · exact h.elim
    · exact h.elim
  case iastore =>
    dsimp only [gx_step] at h
    split at h
    · rename_i x i p0 st1
      split at h
      · rename_i n ha
        obtain ⟨hin0, h⟩ := h
        have hin : vp_in i n := vp_in_iff.mpr hin0
        intro p e s m args below meth c A H locs ls C hr hlk hK hP hD hA hS hlen hlo hst hl
        refine va_iast C.1 C.2.1 hK hP hD hS p0 0 (f := M p0) (gx_ws_at ha) rfl hin hd (fun H1 locs1 hP1 hD1 hS1 => ?_)
        skip
        have e2 := gx_ws_set (ad := X.2.2.1) (cA := X.2.2.2) (M := M) ha (upd (M p0) i.toNatClampNeg x)
        have hP2 : va_P X.2.1 gx_cl (gx_ws X.2.2.1 X.2.2.2 (gx_w M p0 i.toInt.toNat x)) H1 := by rw [gx_w_eq]; show va_P _ _ (gx_ws _ _ (va_up M p0 (upd (M p0) i.toNatClampNeg x))) _; rw [← e2]; exact hP1
        have hD2 : va_D A (gx_ws X.2.2.1 X.2.2.2 (gx_w M p0 i.toInt.toNat x)) := by rw [gx_w_eq]; show va_D _ (gx_ws _ _ (va_up M p0 (upd (M p0) i.toNatClampNeg x))); rw [← e2]; exact hD1
        exact hG _ _ _ _ h p e s m args below meth c A H1 locs1 ls C hr hlk hK hP2 hD2 hA hS1 hlen hlo (fun v hv => hst v (List.mem_cons_of_mem _ (List.mem_cons_of_mem _ (List.mem_cons_of_mem _ hv)))) hl
      · exact h.elim
    · exact h.elim
  case bastore =>
    dsimp only [gx_step] at h
    split at h
    · rename_i x i p0 st1
      split at h
      · rename_i n ha
        obtain ⟨hbx, hin0, h⟩ := h
        have hin : vp_in i n := vp_in_iff.mpr hin0
        intro p e s m args below meth c A H locs ls C hr hlk hK hP hD hA hS hlen hlo hst hl
        refine va_zast C.1 C.2.1 hK hP hD hS p0 1 (f := M p0) (gx_ws_at ha) rfl hin hd (fun H1 locs1 hP1 hD1 hS1 => ?_)
        rw [(gx_bl_nar hbx).2.2] at hP1 hD1
        have e2 := gx_ws_set (ad := X.2.2.1) (cA := X.2.2.2) (M := M) ha (upd (M p0) i.toNatClampNeg x)
        have hP2 : va_P X.2.1 gx_cl (gx_ws X.2.2.1 X.2.2.2 (gx_w M p0 i.toInt.toNat x)) H1 := by rw [gx_w_eq]; show va_P _ _ (gx_ws _ _ (va_up M p0 (upd (M p0) i.toNatClampNeg x))) _; rw [← e2]; exact hP1
        have hD2 : va_D A (gx_ws X.2.2.1 X.2.2.2 (gx_w M p0 i.toInt.toNat x)) := by rw [gx_w_eq]; show va_D _ (gx_ws _ _ (va_up M p0 (upd (M p0) i.toNatClampNeg x))); rw [← e2]; exact hD1
        exact hG _ _ _ _ h p e s m args below meth c A H1 locs1 ls C hr hlk hK hP2 hD2 hA hS1 hlen hlo (fun v hv => hst v (List.mem_cons_of_mem _ (List.mem_cons_of_mem _ (List.mem_cons_of_mem _ hv)))) hl
      · exact h.elim
    · exact h.elim
  case aaload =>
    dsimp only [gx_step] at h
    split at h
    · rename_i i p0 st1
      split at h
      · rename_i qs ha
        obtain ⟨hin0, h⟩ := h
        have hin : vp_in i qs.length := vp_in_iff.mpr hin0
        have hlt : i.toNatClampNeg < qs.length := Nat.not_le.mp fun q => hin (Or.inr q)
        intro p e s m args below meth c A H locs ls C hr hlk hK hP hD hA hS hlen hlo hst hl
        refine W.aald (v := .ref (X.2.2.1 (qs.getD i.toNatClampNeg 0))) (ty := .array .int) C.1 C.2.1 (hP p0 _ (gx_ws_at ha)) ((hK.2 2 _ rfl).1 qs.length (fun j => va_rf ((qs[j]?).map X.2.2.1))) rfl (fun q => by cases q) (by show ¬ (i < 0 ∨ (arrV _ _ _).slots.size ≤ _); rw [arrV_size]; exact hin) (by show (arrV _ _ _).slots[_]? = _; rw [arrV_read _ _ hlt]; show some (va_rf ((qs[i.toNatClampNeg]?).map X.2.2.1)) = _; rw [List.getD_eq_getElem?_getD, List.getElem?_eq_getElem hlt]; rfl) rfl rfl hd ?_
        exact hG _ _ _ _ h p e s m args below meth c A H locs ls C hr hlk hK hP hD hA hS hlen hlo (gx_cons_cat (fun v hv => hst v (List.mem_cons_of_mem _ (List.mem_cons_of_mem _ hv))) rfl) hl
      · exact h.elim
    · exact h.elim
  case arraylength =>
    dsimp only [gx_step] at h
    split at h
    · rename_i p0 st1
      split at h
      · rename_i n ha
        intro p e s m args below meth c A H locs ls C hr hlk hK hP hD hA hS hlen hlo hst hl
        refine va_alen C.1 C.2.1 hK hP p0 0 (gx_ws_at ha) rfl rfl hd ?_
        exact hG _ _ _ _ h p e s m args below meth c A H locs ls C hr hlk hK hP hD hA hS hlen hlo (gx_cons_cat (fun v hv => hst v (List.mem_cons_of_mem _ hv)) rfl) hl
      · exact h.elim
    · exact h.elim
  case invokevirtual k =>
    dsimp only [gx_step] at h
    split at h
    · rename_i ν n hm
      split at h
      · rename_i p0 as hst1
        split at h
        · rename_i cj sl ha
          obtain ⟨rfl, hn1, hn2, h⟩ := h
          obtain ⟨q1, q2, q3, q4, q5, q6, q7, q8, q9, q10, q11⟩ := gx_ml_ok hm
          have hrk2 : n ≤ gx_mL ν ∧ (gx_rm ν).frames + 1 ≤ (gx_rm μ).frames ∧ 8 + (gx_mL ν + 11) + (gx_rm ν).locals ≤ (gx_rm μ).locals := by
            dsimp only [gx_rok] at hrk
            rw [hm] at hrk
            exact of_decide_eq_true hrk
          have hst2 : st = as.reverse ++ .ref p0 :: st.drop n := by
            have e1 := gx_take hn1
            rw [hst1, List.reverse_cons, List.append_assoc] at e1
            exact e1
          have hlenA : (Value.ref p0 :: as).length = n := by rw [← hst1, List.length_reverse, List.length_take]; omega
          obtain ⟨C1, T, N, hc⟩ : ∃ C T N, gx_cl[gx_on ν]? = some (C, T, N) := by
            match gx_on ν, q9 with
            | 0, _ => exact ⟨_, _, _, rfl⟩
            | 1, _ => exact ⟨_, _, _, rfl⟩
            | 2, _ => exact ⟨_, _, _, rfl⟩
            | 3, _ => exact ⟨_, _, _, rfl⟩
            | 4, _ => exact ⟨_, _, _, rfl⟩
          have hcn : (gx_y ν).cls = C1 := by
            rw [q8]
            generalize gx_on ν = z at q9 hc
            match z, q9, hc with
            | 0, _, hc => cases hc; rfl
            | 1, _, hc => cases hc; rfl
            | 2, _, hc => cases hc; rfl
            | 3, _, hc => cases hc; rfl
            | 4, _, hc => cases hc; rfl
          intro p e s m args below meth c A H locs ls C hr hlk hK hP hD hA hS hlen hlo hst hl
          have hstk : st.map (gx_cv X.2.2.1) = (as.map (gx_cv X.2.2.1)).reverse ++ Value.ref (X.2.2.1 p0) :: (st.drop n).map (gx_cv X.2.2.1) := by
            have e9 := congrArg (List.map (gx_cv X.2.2.1)) hst2
            rw [List.map_append, List.map_reverse, List.map_cons] at e9
            exact e9
          have hcatA : ∀ v ∈ (Value.ref p0 :: as), v.category = 1 := fun v hv => hst v (by rw [hst2]; rcases List.mem_cons.mp hv with z | z <;> simp [z])
          have hrun := va_runV (l := X.1) (As := as.map (gx_cv X.2.2.1)) (rest := (st.drop n).map (gx_cv X.2.2.1)) (b := X.2.2.1 p0) (locs := locs) (cells := 0) (slots := 0) (below := below) (meth := meth) (e := e) (g := F0 m pc ls (st.map (gx_cv X.2.2.1))) C (gx_met (X := X) (ν := ν) (as := .ref p0 :: as) (M := M) q1 hcatA (by rw [hlenA]; exact hrk2.1) h H.size)
            (cwV (R := (headSpec (gx_wd μ) (gx_rm μ)).room) (C := C1) (n - 1) C.2.2.2.2 (gx_goodIn (fun w hw => by
              rcases List.mem_append.mp hw with z | z
              · simp only [List.mem_cons, List.not_mem_nil, or_false] at z
                rcases z with rfl | rfl | rfl | rfl
                · exact q2
                · exact q10
                · rw [← hcn]; exact q11
                · rw [← hcn]; exact q3
              · rcases List.mem_cons.mp z with rfl | z
                · exact gx_kn q1
                · exact z)) rfl rfl rfl ⟨hcn, q4, q5, q6⟩ hrk2.2)
            ⟨gx_blind, va_recv hK hP (ci := gx_on ν) (q0 := p0) hc (gx_ws_at ha), (fun U hU hW => ⟨rfl, by rw [hU], by rw [hU]; exact hP, va_K.moved hW.alike hK, hD.weaken (fun _ _ _ _ => trivial)⟩)⟩ rfl (by rw [List.length_map]; have := hlenA; rw [List.length_cons] at this; omega) hl.1 hstk (lv_room (by rw [gx_sum _ _ (fun v hv => hst v (List.mem_of_mem_drop hv)), List.length_drop]; omega)) hd ⟨Nat.zero_le _, Nat.zero_le _⟩
          refine gx_call hrun hS (gx_freeA hD hS hA) (fun v u H1 locs1 hpv hcat hP1 hD1 hS1 => ?_)
          have h := gx_nx_ok hpv hcat.1
          have e3 : (v.map (gx_cv X.2.2.1)).toList ++ (st.drop n).map (gx_cv X.2.2.1) = (v.toList ++ st.drop n).map (gx_cv X.2.2.1) := by cases v <;> rfl
          rw [e3]
          exact hG _ _ _ _ h p e s m args below meth c A H1 locs1 ls C hr hlk hK hP1 hD1 hA hS1 hlen hlo (fun w hw => (List.mem_append.mp hw).elim (hcat.2 w) (fun z => hst w (List.mem_of_mem_drop z))) hl
        · exact h.elim
      · exact h.elim
    · exact h.elim
  case invokestatic k =>
    dsimp only [gx_step] at h
    split at h
    · rename_i ν n hm
      obtain ⟨hn1, hn2, h⟩ := h
      obtain ⟨q1, q2, q3, q4, q5, q6, q7⟩ := gx_ml_ok hm
      have hrk2 : n ≤ gx_mL ν ∧ (gx_rm ν).frames + 1 ≤ (gx_rm μ).frames ∧ 8 + (gx_mL ν + 11) + (gx_rm ν).locals ≤ (gx_rm μ).locals := by
        dsimp only [gx_rok] at hrk
        rw [hm] at hrk
        exact of_decide_eq_true hrk
      generalize hst1 : (st.take n).reverse = as at h
      have hst2 : st = as.reverse ++ st.drop n := by rw [← hst1]; exact gx_take hn1
      have hlenA : as.length = n := by rw [← hst1, List.length_reverse, List.length_take]; omega
      intro p e s m args below meth c A H locs ls C hr hlk hK hP hD hA hS hlen hlo hst hl
      have hstk : st.map (gx_cv X.2.2.1) = (as.map (gx_cv X.2.2.1)).reverse ++ (st.drop n).map (gx_cv X.2.2.1) := by
        have e9 := congrArg (List.map (gx_cv X.2.2.1)) hst2
        rw [List.map_append, List.map_reverse] at e9
        exact e9
      have hcatA : ∀ v ∈ as, v.category = 1 := fun v hv => hst v (by rw [hst2]; simp [hv])
      have hrun := va_runS (l := X.1) (As := as.map (gx_cv X.2.2.1)) (rest := (st.drop n).map (gx_cv X.2.2.1)) (locs := locs) (cells := 0) (slots := 0) (below := below) (meth := meth) (e := e) (g := F0 m pc ls (st.map (gx_cv X.2.2.1))) C (gx_met (X := X) (ν := ν) (as := as) (M := M) q1 hcatA (by rw [hlenA]; exact hrk2.1) h H.size)
        (va_cwS (R := (headSpec (gx_wd μ) (gx_rm μ)).room) n C.2.2.2.2 (gx_goodIn (fun w hw => by
          rcases List.mem_append.mp hw with z | z
          · simp only [List.mem_cons, List.not_mem_nil, or_false] at z
            rcases z with rfl | rfl | rfl
            · exact q2
            · exact q7
            · exact q3
          · rcases List.mem_cons.mp z with rfl | z
            · exact gx_kn q1
            · exact z)) rfl rfl rfl ⟨q4, q5, q6⟩ hrk2.2)
        ⟨gx_blind, (fun U hU hW => ⟨rfl, by rw [hU], by rw [hU]; exact hP, va_K.moved hW.alike hK, hD.weaken (fun _ _ _ _ => trivial)⟩)⟩ rfl (by rw [List.length_map]; exact hlenA) hl.1 hstk (lv_room (by rw [gx_sum _ _ (fun v hv => hst v (List.mem_of_mem_drop hv)), List.length_drop]; omega)) hd ⟨Nat.zero_le _, Nat.zero_le _⟩
      refine gx_call hrun hS (gx_freeA hD hS hA) (fun v u H1 locs1 hpv hcat hP1 hD1 hS1 => ?_)
      have h := gx_nx_ok hpv hcat.1
      have e3 : (v.map (gx_cv X.2.2.1)).toList ++ (st.drop n).map (gx_cv X.2.2.1) = (v.toList ++ st.drop n).map (gx_cv X.2.2.1) := by cases v <;> rfl
      rw [e3]
      exact hG _ _ _ _ h p e s m args below meth c A H1 locs1 ls C hr hlk hK hP1 hD1 hA hS1 hlen hlo (fun w hw => (List.mem_append.mp hw).elim (hcat.2 w) (fun z => hst w (List.mem_of_mem_drop z))) hl
    · exact h.elim
    · rename_i hm
      split at h
      · rename_i n dp q1 sp q0 st1 hcp
        split at h
        · rename_i n0 n1 ha0 ha1
          obtain ⟨hs8, ⟨g1, g2, g3, g4, g5⟩, h⟩ := h
          have nn : ∀ z : Int32, 0 ≤ z.toInt → ¬ z < 0 := fun z hz q => by
            have := Int32.lt_iff_toInt_lt.mp q
            simp at this
            omega
          have h1 := nn _ g1
          have h2 := nn _ g2
          have h3 := nn _ g3
          have h4 : sp.toNatClampNeg + n.toNatClampNeg ≤ n0 := by
            show sp.toInt.toNat + n.toInt.toNat ≤ n0
            omega
          have h5 : dp.toNatClampNeg + n.toNatClampNeg ≤ n1 := by
            show dp.toInt.toNat + n.toInt.toNat ≤ n1
            omega
          have hrk2 : 1 ≤ (gx_rm μ).frames ∧ 26 ≤ (gx_rm μ).locals := by
            dsimp only [gx_rok] at hrk
            rw [hm] at hrk
            exact of_decide_eq_true hrk
          intro p e s m args below meth c A H locs ls C hr hlk hK hP hD hA hS hlen hlo hst hl
          have hst5 : ∀ v ∈ st1, v.category = 1 := fun v hv => hst v (List.mem_cons_of_mem _ (List.mem_cons_of_mem _ (List.mem_cons_of_mem _ (List.mem_cons_of_mem _ (List.mem_cons_of_mem _ hv)))))
          refine va_copyi (R := (headSpec (gx_wd μ) (gx_rm μ)).room) (ty := .int) C.1 C.2.1 (C.2.2.1.trans hl.1.symm) C.2.2.2.1 (C.2.2.2.2 _ (gx_wd_in (gx_aTok _ (gx_lookup hcp)))) (C.2.2.2.2 _ (gx_wd_in gx_anat)) (C.2.2.2.2 _ (gx_wd_in gx_asta)) (C.2.2.2.2 _ (gx_wd_in gx_aini)) hK hP hD hS q0 q1 0 0 (f := M q0) (g := M q1) (gx_ws_at ha0) (gx_ws_at ha1) rfl rfl rfl h1 h2 h3 h4 h5 (fun _ _ => rfl) hrk2.1 ?_ hd (fun H1 locs1 hP1 hD1 hS1 => ?_)
          · rw [gx_sum _ _ hst5]
            have e4 : nativeFrameWords "java/lang/System" "arraycopy" 5 = 7 := by decide
            rw [e4]
            have := hrk2.2
            show st1.length + (7 + 11) ≤ (gx_rm μ).locals
            omega
          · have e2 := gx_ws_set (ad := X.2.2.1) (cA := X.2.2.2) (M := M) ha1 (va_cpy (M q0) (M q1) sp.toNatClampNeg dp.toNatClampNeg n.toNatClampNeg)
            have hP2 : va_P X.2.1 gx_cl (gx_ws X.2.2.1 X.2.2.2 (gx_cp M q0 q1 sp.toInt.toNat dp.toInt.toNat n.toInt.toNat)) H1 := by rw [gx_cp_eq]; show va_P _ _ (gx_ws _ _ (va_up M q1 (va_cpy (M q0) (M q1) sp.toNatClampNeg dp.toNatClampNeg n.toNatClampNeg))) _; rw [← e2]; exact hP1
            have hD2 : va_D A (gx_ws X.2.2.1 X.2.2.2 (gx_cp M q0 q1 sp.toInt.toNat dp.toInt.toNat n.toInt.toNat)) := by rw [gx_cp_eq]; show va_D _ (gx_ws _ _ (va_up M q1 (va_cpy (M q0) (M q1) sp.toNatClampNeg dp.toNatClampNeg n.toNatClampNeg))); rw [← e2]; exact hD1
            exact hG _ _ _ _ h p e s m args below meth c A H1 locs1 ls C hr hlk hK hP2 hD2 hA hS1 hlen hlo hst5 hl
        · exact h.elim
      · exact h.elim
  case ireturn =>
    dsimp only [gx_step] at h
    split at h
    · rename_i v
      obtain ⟨hty, h⟩ := h
      intro p e s m args below meth c A H locs ls C hr hlk hK hP hD hA hS hlen hlo hst hl
      split at hty
      · rename_i e1
        exact W.iret (v := v) C.1 C.2.1 (hr.trans e1) (fun t ht hW => ⟨⟨some (.int v), M, rfl, h, ⟨(by unfold gx_shp; rw [e1]; exact ⟨_, rfl⟩), (fun w hw => by cases List.mem_singleton.mp hw; rfl)⟩, by rw [ht]; exact hP, va_K.moved hW.alike hK, hD⟩, hS.F ht⟩) hS.2.2 hd hlk
      · rename_i e1
        exact W.zret (v := v) C.1 C.2.1 (hr.trans e1) (gx_bl_nar hty).1 (fun t ht hW => ⟨⟨some (.int v), M, rfl, h, ⟨(by unfold gx_shp; rw [e1]; exact ⟨_, rfl⟩), (fun w hw => by cases List.mem_singleton.mp hw; rfl)⟩, by rw [ht]; exact hP, va_K.moved hW.alike hK, hD⟩, hS.F ht⟩) hS.2.2 hd hlk
      · exact hty.elim
    · exact h.elim
  case areturn =>
    dsimp only [gx_step] at h
    split at h
    · rename_i p0
      obtain ⟨hty, h⟩ := h
      intro p e s m args below meth c A H locs ls C hr hlk hK hP hD hA hS hlen hlo hst hl
      split at hty
      · rename_i ty e1
        exact W.aret (v := .ref (X.2.2.1 p0)) C.1 C.2.1 (hr.trans e1) (Or.inr ⟨_, rfl⟩) (Or.inr ⟨_, rfl⟩) (fun t ht hW => ⟨⟨some (.ref p0), M, rfl, h, ⟨(by unfold gx_shp; rw [e1]; exact ⟨_, rfl⟩), (fun w hw => by cases List.mem_singleton.mp hw; rfl)⟩, by rw [ht]; exact hP, va_K.moved hW.alike hK, hD⟩, hS.F ht⟩) hS.2.2 hd hlk
      · exact hty.elim
    · exact h.elim
  case return_ =>
    dsimp only [gx_step] at h
    split at h
    · obtain ⟨hty, h⟩ := h
      intro p e s m args below meth c A H locs ls C hr hlk hK hP hD hA hS hlen hlo hst hl
      exact W.vret C.1 C.2.1 (hr.trans hty) (fun t ht hW => ⟨⟨none, M, rfl, h, ⟨(by unfold gx_shp; rw [hty]), (fun w hw => by cases hw)⟩, by rw [ht]; exact hP, va_K.moved hW.alike hK, hD⟩, hS.F ht⟩) hS.2.2 hd hlk
    · exact h.elim
  all_goals exact h.elim
theorem gx_wp_ok {X : gx_X} {μ : Nat} {Post : Option Value → gx_M → Prop} : ∀ (n : Nat) (b : Bool) (pc : Nat) (lo st : List Value) (M : gx_M), gx_wp X μ Post n b pc lo st M → gx_OK X μ pc lo st M Post
  | 0, _, _, _, _, _, h => h
  | n + 1, b, pc, lo, st, M, h => by
    unfold gx_wp at h
    split at h
    · exact h.elim
    · rename_i c i t hi
      split at h
      · exact h
      · exact gx_sound hi (fun pc lo st M h => gx_wp_ok n true pc lo st M h) h
end
section
/-! What the tables say, as rows to rewrite with: printed by wip/gen.py. -/
theorem gn0 : gx_on 0 = 0 := rfl
theorem gv0 : gx_mL 0 = 2 := rfl
theorem gr0 : gx_ret 0 = (some .boolean) := rfl
theorem gn1 : gx_on 1 = 0 := rfl
theorem gv1 : gx_mL 1 = 2 := rfl
theorem gr1 : gx_ret 1 = (some .boolean) := rfl
theorem gn2 : gx_on 2 = 0 := rfl
theorem gv2 : gx_mL 2 = 1 := rfl
theorem gr2 : gx_ret 2 = (some .int) := rfl
theorem gn3 : gx_on 3 = 0 := rfl
theorem gv3 : gx_mL 3 = 5 := rfl
theorem gr3 : gx_ret 3 = (some .int) := rfl
theorem gn4 : gx_on 4 = 0 := rfl
theorem gv4 : gx_mL 4 = 2 := rfl
theorem gr4 : gx_ret 4 = (some .int) := rfl
theorem gn5 : gx_on 5 = 0 := rfl
theorem gv5 : gx_mL 5 = 2 := rfl
theorem gr5 : gx_ret 5 = (some .int) := rfl
theorem gn6 : gx_on 6 = 0 := rfl
theorem gv6 : gx_mL 6 = 5 := rfl
theorem gr6 : gx_ret 6 = (some .int) := rfl
theorem gn7 : gx_on 7 = 0 := rfl
theorem gv7 : gx_mL 7 = 5 := rfl
theorem gr7 : gx_ret 7 = (some .int) := rfl
theorem gn8 : gx_on 8 = 1 := rfl
theorem gv8 : gx_mL 8 = 2 := rfl
theorem gr8 : gx_ret 8 = none := rfl
theorem gn9 : gx_on 9 = 1 := rfl
theorem gv9 : gx_mL 9 = 6 := rfl
theorem gr9 : gx_ret 9 = none := rfl
theorem gn10 : gx_on 10 = 1 := rfl
theorem gv10 : gx_mL 10 = 4 := rfl
theorem gr10 : gx_ret 10 = none := rfl
theorem gn11 : gx_on 11 = 1 := rfl
theorem gv11 : gx_mL 11 = 2 := rfl
theorem gr11 : gx_ret 11 = none := rfl
theorem gn12 : gx_on 12 = 1 := rfl
theorem gv12 : gx_mL 12 = 2 := rfl
theorem gr12 : gx_ret 12 = none := rfl
theorem gn13 : gx_on 13 = 1 := rfl
theorem gv13 : gx_mL 13 = 2 := rfl
theorem gr13 : gx_ret 13 = none := rfl
theorem gn14 : gx_on 14 = 1 := rfl
theorem gv14 : gx_mL 14 = 3 := rfl
theorem gr14 : gx_ret 14 = (some .boolean) := rfl
theorem gn15 : gx_on 15 = 1 := rfl
theorem gv15 : gx_mL 15 = 4 := rfl
theorem gr15 : gx_ret 15 = (some .int) := rfl
theorem gn16 : gx_on 16 = 1 := rfl
theorem gv16 : gx_mL 16 = 2 := rfl
theorem gr16 : gx_ret 16 = none := rfl
theorem gn17 : gx_on 17 = 1 := rfl
theorem gv17 : gx_mL 17 = 7 := rfl
theorem gr17 : gx_ret 17 = (some .int) := rfl
theorem gn18 : gx_on 18 = 1 := rfl
theorem gv18 : gx_mL 18 = 9 := rfl
theorem gr18 : gx_ret 18 = (some .boolean) := rfl
theorem gn19 : gx_on 19 = 1 := rfl
theorem gv19 : gx_mL 19 = 5 := rfl
theorem gr19 : gx_ret 19 = (some .int) := rfl
theorem gn20 : gx_on 20 = 1 := rfl
theorem gv20 : gx_mL 20 = 5 := rfl
theorem gr20 : gx_ret 20 = none := rfl
theorem gn21 : gx_on 21 = 1 := rfl
theorem gv21 : gx_mL 21 = 2 := rfl
theorem gr21 : gx_ret 21 = (some .int) := rfl
theorem gn22 : gx_on 22 = 1 := rfl
theorem gv22 : gx_mL 22 = 3 := rfl
theorem gr22 : gx_ret 22 = (some .int) := rfl
theorem gn23 : gx_on 23 = 2 := rfl
theorem gv23 : gx_mL 23 = 3 := rfl
theorem gr23 : gx_ret 23 = (some .int) := rfl
theorem gn24 : gx_on 24 = 2 := rfl
theorem gv24 : gx_mL 24 = 5 := rfl
theorem gr24 : gx_ret 24 = none := rfl
theorem gn25 : gx_on 25 = 2 := rfl
theorem gv25 : gx_mL 25 = 3 := rfl
theorem gr25 : gx_ret 25 = (some .int) := rfl
theorem gn26 : gx_on 26 = 2 := rfl
theorem gv26 : gx_mL 26 = 6 := rfl
theorem gr26 : gx_ret 26 = none := rfl
theorem gn27 : gx_on 27 = 2 := rfl
theorem gv27 : gx_mL 27 = 4 := rfl
theorem gr27 : gx_ret 27 = (some .int) := rfl
theorem gn28 : gx_on 28 = 2 := rfl
theorem gv28 : gx_mL 28 = 5 := rfl
theorem gr28 : gx_ret 28 = none := rfl
theorem gn29 : gx_on 29 = 2 := rfl
theorem gv29 : gx_mL 29 = 5 := rfl
theorem gr29 : gx_ret 29 = (some .int) := rfl
theorem gn30 : gx_on 30 = 2 := rfl
theorem gv30 : gx_mL 30 = 5 := rfl
theorem gr30 : gx_ret 30 = none := rfl
theorem gn31 : gx_on 31 = 3 := rfl
theorem gv31 : gx_mL 31 = 1 := rfl
theorem gr31 : gx_ret 31 = (some .int) := rfl
theorem gn32 : gx_on 32 = 3 := rfl
theorem gv32 : gx_mL 32 = 4 := rfl
theorem gr32 : gx_ret 32 = (some .int) := rfl
theorem gn33 : gx_on 33 = 3 := rfl
theorem gv33 : gx_mL 33 = 3 := rfl
theorem gr33 : gx_ret 33 = (some .int) := rfl
theorem gn34 : gx_on 34 = 3 := rfl
theorem gv34 : gx_mL 34 = 5 := rfl
theorem gr34 : gx_ret 34 = (some .int) := rfl
theorem gn35 : gx_on 35 = 3 := rfl
theorem gv35 : gx_mL 35 = 4 := rfl
theorem gr35 : gx_ret 35 = (some .int) := rfl
theorem gn36 : gx_on 36 = 3 := rfl
theorem gv36 : gx_mL 36 = 2 := rfl
theorem gr36 : gx_ret 36 = (some .int) := rfl
theorem gn37 : gx_on 37 = 3 := rfl
theorem gv37 : gx_mL 37 = 1 := rfl
theorem gr37 : gx_ret 37 = (some .int) := rfl
theorem gn38 : gx_on 38 = 3 := rfl
theorem gv38 : gx_mL 38 = 1 := rfl
theorem gr38 : gx_ret 38 = (some .int) := rfl
theorem gn39 : gx_on 39 = 3 := rfl
theorem gv39 : gx_mL 39 = 2 := rfl
theorem gr39 : gx_ret 39 = (some .int) := rfl
theorem gn40 : gx_on 40 = 3 := rfl
theorem gv40 : gx_mL 40 = 3 := rfl
theorem gr40 : gx_ret 40 = (some .int) := rfl
theorem gn41 : gx_on 41 = 3 := rfl
theorem gv41 : gx_mL 41 = 4 := rfl
theorem gr41 : gx_ret 41 = (some .int) := rfl
theorem gn42 : gx_on 42 = 3 := rfl
theorem gv42 : gx_mL 42 = 2 := rfl
theorem gr42 : gx_ret 42 = (some .int) := rfl
theorem gn43 : gx_on 43 = 3 := rfl
theorem gv43 : gx_mL 43 = 2 := rfl
theorem gr43 : gx_ret 43 = (some .int) := rfl
theorem gn44 : gx_on 44 = 3 := rfl
theorem gv44 : gx_mL 44 = 2 := rfl
theorem gr44 : gx_ret 44 = (some .int) := rfl
theorem gn45 : gx_on 45 = 3 := rfl
theorem gv45 : gx_mL 45 = 2 := rfl
theorem gr45 : gx_ret 45 = (some .int) := rfl
theorem gn46 : gx_on 46 = 3 := rfl
theorem gv46 : gx_mL 46 = 1 := rfl
theorem gr46 : gx_ret 46 = (some .int) := rfl
theorem gn47 : gx_on 47 = 3 := rfl
theorem gv47 : gx_mL 47 = 3 := rfl
theorem gr47 : gx_ret 47 = (some .int) := rfl
theorem gn48 : gx_on 48 = 3 := rfl
theorem gv48 : gx_mL 48 = 1 := rfl
theorem gr48 : gx_ret 48 = (some .boolean) := rfl
theorem gn49 : gx_on 49 = 3 := rfl
theorem gv49 : gx_mL 49 = 2 := rfl
theorem gr49 : gx_ret 49 = (some .boolean) := rfl
theorem gn50 : gx_on 50 = 3 := rfl
theorem gv50 : gx_mL 50 = 1 := rfl
theorem gr50 : gx_ret 50 = (some .int) := rfl
theorem gn51 : gx_on 51 = 3 := rfl
theorem gv51 : gx_mL 51 = 1 := rfl
theorem gr51 : gx_ret 51 = (some .int) := rfl
theorem gn52 : gx_on 52 = 3 := rfl
theorem gv52 : gx_mL 52 = 1 := rfl
theorem gr52 : gx_ret 52 = none := rfl
theorem gn53 : gx_on 53 = 3 := rfl
theorem gv53 : gx_mL 53 = 1 := rfl
theorem gr53 : gx_ret 53 = (some .boolean) := rfl
theorem gn54 : gx_on 54 = 3 := rfl
theorem gv54 : gx_mL 54 = 3 := rfl
theorem gr54 : gx_ret 54 = (some (.array .int)) := rfl
theorem gn55 : gx_on 55 = 3 := rfl
theorem gv55 : gx_mL 55 = 4 := rfl
theorem gr55 : gx_ret 55 = none := rfl
theorem gn56 : gx_on 56 = 3 := rfl
theorem gv56 : gx_mL 56 = 3 := rfl
theorem gr56 : gx_ret 56 = none := rfl
theorem gn57 : gx_on 57 = 3 := rfl
theorem gv57 : gx_mL 57 = 2 := rfl
theorem gr57 : gx_ret 57 = none := rfl
theorem gn58 : gx_on 58 = 3 := rfl
theorem gv58 : gx_mL 58 = 3 := rfl
theorem gr58 : gx_ret 58 = (some .int) := rfl
theorem gn59 : gx_on 59 = 3 := rfl
theorem gv59 : gx_mL 59 = 3 := rfl
theorem gr59 : gx_ret 59 = none := rfl
theorem gn60 : gx_on 60 = 3 := rfl
theorem gv60 : gx_mL 60 = 1 := rfl
theorem gr60 : gx_ret 60 = none := rfl
theorem gn61 : gx_on 61 = 4 := rfl
theorem gv61 : gx_mL 61 = 5 := rfl
theorem gr61 : gx_ret 61 = none := rfl
theorem gn62 : gx_on 62 = 4 := rfl
theorem gv62 : gx_mL 62 = 4 := rfl
theorem gr62 : gx_ret 62 = none := rfl
theorem gn63 : gx_on 63 = 4 := rfl
theorem gv63 : gx_mL 63 = 5 := rfl
theorem gr63 : gx_ret 63 = (some .boolean) := rfl
theorem gn64 : gx_on 64 = 4 := rfl
theorem gv64 : gx_mL 64 = 6 := rfl
theorem gr64 : gx_ret 64 = (some .boolean) := rfl
theorem gn65 : gx_on 65 = 4 := rfl
theorem gv65 : gx_mL 65 = 2 := rfl
theorem gr65 : gx_ret 65 = none := rfl
theorem gn66 : gx_on 66 = 4 := rfl
theorem gv66 : gx_mL 66 = 4 := rfl
theorem gr66 : gx_ret 66 = (some .int) := rfl
theorem gn67 : gx_on 67 = 4 := rfl
theorem gv67 : gx_mL 67 = 4 := rfl
theorem gr67 : gx_ret 67 = (some .int) := rfl
theorem gn68 : gx_on 68 = 4 := rfl
theorem gv68 : gx_mL 68 = 6 := rfl
theorem gr68 : gx_ret 68 = none := rfl
theorem gn69 : gx_on 69 = 4 := rfl
theorem gv69 : gx_mL 69 = 2 := rfl
theorem gr69 : gx_ret 69 = none := rfl
theorem gn70 : gx_on 70 = 4 := rfl
theorem gv70 : gx_mL 70 = 1 := rfl
theorem gr70 : gx_ret 70 = none := rfl
theorem gn71 : gx_on 71 = 4 := rfl
theorem gv71 : gx_mL 71 = 5 := rfl
theorem gr71 : gx_ret 71 = (some .int) := rfl
theorem gn72 : gx_on 72 = 4 := rfl
theorem gv72 : gx_mL 72 = 5 := rfl
theorem gr72 : gx_ret 72 = (some .int) := rfl
theorem gn73 : gx_on 73 = 4 := rfl
theorem gv73 : gx_mL 73 = 3 := rfl
theorem gr73 : gx_ret 73 = (some .int) := rfl
theorem gn74 : gx_on 74 = 4 := rfl
theorem gv74 : gx_mL 74 = 5 := rfl
theorem gr74 : gx_ret 74 = (some .int) := rfl
theorem gn75 : gx_on 75 = 4 := rfl
theorem gv75 : gx_mL 75 = 5 := rfl
theorem gr75 : gx_ret 75 = none := rfl
theorem gn76 : gx_on 76 = 4 := rfl
theorem gv76 : gx_mL 76 = 2 := rfl
theorem gr76 : gx_ret 76 = none := rfl
theorem gn77 : gx_on 77 = 4 := rfl
theorem gv77 : gx_mL 77 = 2 := rfl
theorem gr77 : gx_ret 77 = (some .int) := rfl
theorem gn78 : gx_on 78 = 4 := rfl
theorem gv78 : gx_mL 78 = 6 := rfl
theorem gr78 : gx_ret 78 = none := rfl
theorem gn79 : gx_on 79 = 4 := rfl
theorem gv79 : gx_mL 79 = 2 := rfl
theorem gr79 : gx_ret 79 = (some .boolean) := rfl
theorem gn80 : gx_on 80 = 4 := rfl
theorem gv80 : gx_mL 80 = 2 := rfl
theorem gr80 : gx_ret 80 = (some .boolean) := rfl
theorem gn81 : gx_on 81 = 4 := rfl
theorem gv81 : gx_mL 81 = 2 := rfl
theorem gr81 : gx_ret 81 = (some .boolean) := rfl
theorem gn82 : gx_on 82 = 4 := rfl
theorem gv82 : gx_mL 82 = 1 := rfl
theorem gr82 : gx_ret 82 = (some .int) := rfl
theorem gn83 : gx_on 83 = 4 := rfl
theorem gv83 : gx_mL 83 = 4 := rfl
theorem gr83 : gx_ret 83 = (some .int) := rfl
theorem gn84 : gx_on 84 = 4 := rfl
theorem gv84 : gx_mL 84 = 3 := rfl
theorem gr84 : gx_ret 84 = (some .int) := rfl
theorem gn85 : gx_on 85 = 4 := rfl
theorem gv85 : gx_mL 85 = 5 := rfl
theorem gr85 : gx_ret 85 = (some .int) := rfl
theorem gn86 : gx_on 86 = 4 := rfl
theorem gv86 : gx_mL 86 = 4 := rfl
theorem gr86 : gx_ret 86 = (some .int) := rfl
theorem gn87 : gx_on 87 = 4 := rfl
theorem gv87 : gx_mL 87 = 4 := rfl
theorem gr87 : gx_ret 87 = (some .int) := rfl
theorem gn88 : gx_on 88 = 4 := rfl
theorem gv88 : gx_mL 88 = 2 := rfl
theorem gr88 : gx_ret 88 = (some .int) := rfl
theorem gn89 : gx_on 89 = 4 := rfl
theorem gv89 : gx_mL 89 = 1 := rfl
theorem gr89 : gx_ret 89 = (some .int) := rfl
theorem gn90 : gx_on 90 = 4 := rfl
theorem gv90 : gx_mL 90 = 1 := rfl
theorem gr90 : gx_ret 90 = (some .boolean) := rfl
theorem gn91 : gx_on 91 = 4 := rfl
theorem gv91 : gx_mL 91 = 2 := rfl
theorem gr91 : gx_ret 91 = (some .int) := rfl
theorem gn92 : gx_on 92 = 4 := rfl
theorem gv92 : gx_mL 92 = 3 := rfl
theorem gr92 : gx_ret 92 = (some .int) := rfl
theorem gn93 : gx_on 93 = 4 := rfl
theorem gv93 : gx_mL 93 = 5 := rfl
theorem gr93 : gx_ret 93 = (some .int) := rfl
theorem gn94 : gx_on 94 = 4 := rfl
theorem gv94 : gx_mL 94 = 3 := rfl
theorem gr94 : gx_ret 94 = (some .int) := rfl
theorem gn95 : gx_on 95 = 4 := rfl
theorem gv95 : gx_mL 95 = 2 := rfl
theorem gr95 : gx_ret 95 = (some .int) := rfl
theorem gn96 : gx_on 96 = 4 := rfl
theorem gv96 : gx_mL 96 = 2 := rfl
theorem gr96 : gx_ret 96 = (some .int) := rfl
theorem gn97 : gx_on 97 = 4 := rfl
theorem gv97 : gx_mL 97 = 2 := rfl
theorem gr97 : gx_ret 97 = (some .int) := rfl
theorem gn98 : gx_on 98 = 4 := rfl
theorem gv98 : gx_mL 98 = 4 := rfl
theorem gr98 : gx_ret 98 = (some .int) := rfl
theorem gn99 : gx_on 99 = 4 := rfl
theorem gv99 : gx_mL 99 = 1 := rfl
theorem gr99 : gx_ret 99 = (some .int) := rfl
theorem gn100 : gx_on 100 = 4 := rfl
theorem gv100 : gx_mL 100 = 3 := rfl
theorem gr100 : gx_ret 100 = (some .int) := rfl
theorem gn101 : gx_on 101 = 5 := rfl
theorem gv101 : gx_mL 101 = 1 := rfl
theorem gr101 : gx_ret 101 = (some .int) := rfl
theorem gn102 : gx_on 102 = 5 := rfl
theorem gv102 : gx_mL 102 = 2 := rfl
theorem gr102 : gx_ret 102 = (some .int) := rfl
theorem gn103 : gx_on 103 = 5 := rfl
theorem gv103 : gx_mL 103 = 2 := rfl
theorem gr103 : gx_ret 103 = (some .int) := rfl
theorem gn104 : gx_on 104 = 6 := rfl
theorem gv104 : gx_mL 104 = 4 := rfl
theorem gr104 : gx_ret 104 = none := rfl
theorem gf0_9 : gx_fl 0 9 = some (0, 0) := rfl
theorem gf0_15 : gx_fl 0 15 = some (0, 1) := rfl
theorem gf0_18 : gx_fl 0 18 = some (0, 2) := rfl
theorem gf0_21 : gx_fl 0 21 = some (0, 3) := rfl
theorem gf0_24 : gx_fl 0 24 = some (0, 4) := rfl
theorem gf0_27 : gx_fl 0 27 = some (0, 5) := rfl
theorem gf0_30 : gx_fl 0 30 = some (0, 6) := rfl
theorem gf0_34 : gx_fl 0 34 = some (0, 7) := rfl
theorem gf0_38 : gx_fl 0 38 = some (0, 8) := rfl
theorem gf0_41 : gx_fl 0 41 = some (0, 9) := rfl
theorem gf1_9 : gx_fl 1 9 = some (1, 0) := rfl
theorem gf1_15 : gx_fl 1 15 = some (1, 1) := rfl
theorem gf1_18 : gx_fl 1 18 = some (1, 2) := rfl
theorem gf1_21 : gx_fl 1 21 = some (1, 3) := rfl
theorem gf1_24 : gx_fl 1 24 = some (1, 4) := rfl
theorem gf1_27 : gx_fl 1 27 = some (1, 5) := rfl
theorem gf1_31 : gx_fl 1 31 = some (1, 6) := rfl
theorem gf1_34 : gx_fl 1 34 = some (1, 7) := rfl
theorem gf1_37 : gx_fl 1 37 = some (1, 8) := rfl
theorem gf1_40 : gx_fl 1 40 = some (1, 9) := rfl
theorem gf2_9 : gx_fl 2 9 = some (2, 0) := rfl
theorem gf2_15 : gx_fl 2 15 = some (2, 1) := rfl
theorem gf2_18 : gx_fl 2 18 = some (2, 3) := rfl
theorem gf2_21 : gx_fl 2 21 = some (2, 4) := rfl
theorem gf2_24 : gx_fl 2 24 = some (2, 5) := rfl
theorem gf2_27 : gx_fl 2 27 = some (2, 6) := rfl
theorem gf2_30 : gx_fl 2 30 = some (2, 7) := rfl
theorem gf2_33 : gx_fl 2 33 = some (2, 2) := rfl
theorem gf2_43 : gx_fl 2 43 = some (0, 7) := rfl
theorem gf2_69 : gx_fl 2 69 = some (0, 0) := rfl
theorem gf2_93 : gx_fl 2 93 = some (0, 3) := rfl
theorem gf2_96 : gx_fl 2 96 = some (0, 8) := rfl
theorem gf2_99 : gx_fl 2 99 = some (0, 2) := rfl
theorem gf3_12 : gx_fl 3 12 = some (3, 0) := rfl
theorem gf3_19 : gx_fl 3 19 = some (3, 1) := rfl
theorem gf3_26 : gx_fl 3 26 = some (3, 2) := rfl
theorem gf3_30 : gx_fl 3 30 = some (3, 3) := rfl
theorem gf3_36 : gx_fl 3 36 = some (3, 4) := rfl
theorem gf3_39 : gx_fl 3 39 = some (3, 5) := rfl
theorem gf3_43 : gx_fl 3 43 = some (3, 6) := rfl
theorem gf3_46 : gx_fl 3 46 = some (0, 7) := rfl
theorem gf3_61 : gx_fl 3 61 = some (0, 0) := rfl
theorem gf3_65 : gx_fl 3 65 = some (0, 1) := rfl
theorem gf3_72 : gx_fl 3 72 = some (0, 8) := rfl
theorem gf3_82 : gx_fl 3 82 = some (0, 4) := rfl
theorem gf3_85 : gx_fl 3 85 = some (0, 5) := rfl
theorem gf3_125 : gx_fl 3 125 = some (1, 1) := rfl
theorem gf3_131 : gx_fl 3 131 = some (3, 8) := rfl
theorem gf3_138 : gx_fl 3 138 = some (3, 7) := rfl
theorem gf3_144 : gx_fl 3 144 = some (2, 2) := rfl
theorem gf3_147 : gx_fl 3 147 = some (2, 0) := rfl
theorem gf3_150 : gx_fl 3 150 = some (2, 1) := rfl
theorem gf3_156 : gx_fl 3 156 = some (3, 10) := rfl
theorem gf3_159 : gx_fl 3 159 = some (3, 9) := rfl
theorem gf3_168 : gx_fl 3 168 = some (3, 11) := rfl
theorem gf3_202 : gx_fl 3 202 = some (0, 2) := rfl
theorem gf3_205 : gx_fl 3 205 = some (0, 3) := rfl
theorem gf3_208 : gx_fl 3 208 = some (1, 0) := rfl
theorem gf4_7 : gx_fl 4 7 = some (4, 1) := rfl
theorem gf4_13 : gx_fl 4 13 = some (4, 2) := rfl
theorem gf4_16 : gx_fl 4 16 = some (4, 4) := rfl
theorem gf4_19 : gx_fl 4 19 = some (4, 5) := rfl
theorem gf4_22 : gx_fl 4 22 = some (4, 6) := rfl
theorem gf4_25 : gx_fl 4 25 = some (4, 7) := rfl
theorem gf4_28 : gx_fl 4 28 = some (4, 8) := rfl
theorem gf4_32 : gx_fl 4 32 = some (4, 10) := rfl
theorem gf4_35 : gx_fl 4 35 = some (4, 11) := rfl
theorem gf4_38 : gx_fl 4 38 = some (4, 12) := rfl
theorem gf4_41 : gx_fl 4 41 = some (4, 13) := rfl
theorem gf4_44 : gx_fl 4 44 = some (4, 14) := rfl
theorem gf4_47 : gx_fl 4 47 = some (4, 15) := rfl
theorem gf4_50 : gx_fl 4 50 = some (4, 18) := rfl
theorem gf4_53 : gx_fl 4 53 = some (4, 19) := rfl
theorem gf4_56 : gx_fl 4 56 = some (4, 20) := rfl
theorem gf4_59 : gx_fl 4 59 = some (4, 22) := rfl
theorem gf4_62 : gx_fl 4 62 = some (4, 23) := rfl
theorem gf4_65 : gx_fl 4 65 = some (4, 24) := rfl
theorem gf4_68 : gx_fl 4 68 = some (4, 25) := rfl
theorem gf4_71 : gx_fl 4 71 = some (4, 26) := rfl
theorem gf4_74 : gx_fl 4 74 = some (4, 27) := rfl
theorem gf4_77 : gx_fl 4 77 = some (4, 28) := rfl
theorem gf4_80 : gx_fl 4 80 = some (4, 16) := rfl
theorem gf4_84 : gx_fl 4 84 = some (4, 3) := rfl
theorem gf4_91 : gx_fl 4 91 = some (4, 0) := rfl
theorem gf4_117 : gx_fl 4 117 = some (4, 9) := rfl
theorem gf4_121 : gx_fl 4 121 = some (4, 17) := rfl
theorem gf4_134 : gx_fl 4 134 = some (4, 21) := rfl
theorem gc1_89 : gx_cn 1 89 = some 100000 := rfl
theorem gc2_105 : gx_cn 2 105 = some 100000 := rfl
theorem gc3_64 : gx_cn 3 64 = some 100000 := rfl
theorem gc4_94 : gx_cn 4 94 = some 1000000 := rfl
theorem gc4_165 : gx_cn 4 165 = some 100000 := rfl
theorem gm1_43 : gx_ml 1 43 = some (104, 2, false) := rfl
theorem gm1_49 : gx_ml 1 49 = some (10, 3, true) := rfl
theorem gm1_59 : gx_ml 1 59 = some (15, 3, true) := rfl
theorem gm1_63 : gx_ml 1 63 = some (103, 2, false) := rfl
theorem gm1_68 : gx_ml 1 68 = some (17, 4, true) := rfl
theorem gm1_72 : gx_ml 1 72 = some (18, 3, true) := rfl
theorem gm1_76 : gx_ml 1 76 = some (19, 2, true) := rfl
theorem gm1_80 : gx_ml 1 80 = some (20, 3, true) := rfl
theorem gm1_83 : gx_ml 1 83 = some (21, 2, true) := rfl
theorem gm1_86 : gx_ml 1 86 = some (22, 2, true) := rfl
theorem gm2_48 : gx_ml 2 48 = some (7, 3, true) := rfl
theorem gm2_52 : gx_ml 2 52 = some (6, 3, true) := rfl
theorem gm2_55 : gx_ml 2 55 = some (101, 1, false) := rfl
theorem gm2_61 : gx_ml 2 61 = some (25, 2, true) := rfl
theorem gm2_65 : gx_ml 2 65 = some (26, 3, true) := rfl
theorem gm2_72 : gx_ml 2 72 = some (104, 2, false) := rfl
theorem gm2_78 : gx_ml 2 78 = some (28, 4, true) := rfl
theorem gm2_82 : gx_ml 2 82 = some (29, 3, true) := rfl
theorem gm2_86 : gx_ml 2 86 = some (30, 4, true) := rfl
theorem gm2_89 : gx_ml 2 89 = some (27, 3, true) := rfl
theorem gm2_102 : gx_ml 2 102 = some (103, 2, false) := rfl
theorem gm3_50 : gx_ml 3 50 = some (52, 1, true) := rfl
theorem gm3_53 : gx_ml 3 53 = some (2, 1, true) := rfl
theorem gm3_57 : gx_ml 3 57 = some (0, 2, true) := rfl
theorem gm3_68 : gx_ml 3 68 = some (49, 2, false) := rfl
theorem gm3_75 : gx_ml 3 75 = some (3, 5, true) := rfl
theorem gm3_79 : gx_ml 3 79 = some (1, 2, true) := rfl
theorem gm3_88 : gx_ml 3 88 = some (4, 2, true) := rfl
theorem gm3_92 : gx_ml 3 92 = some (5, 1, true) := rfl
theorem gm3_95 : gx_ml 3 95 = some (53, 1, true) := rfl
theorem gm3_99 : gx_ml 3 99 = some (48, 1, false) := rfl
theorem gm3_102 : gx_ml 3 102 = some (54, 2, true) := rfl
theorem gm3_106 : gx_ml 3 106 = some (6, 3, true) := rfl
theorem gm3_110 : gx_ml 3 110 = some (7, 3, true) := rfl
theorem gm3_113 : gx_ml 3 113 = some (102, 2, false) := rfl
theorem gm3_119 : gx_ml 3 119 = some (58, 3, true) := rfl
theorem gm3_122 : gx_ml 3 122 = some (57, 1, true) := rfl
theorem gm3_128 : gx_ml 3 128 = some (15, 3, true) := rfl
theorem gm3_135 : gx_ml 3 135 = some (59, 1, true) := rfl
theorem gm3_141 : gx_ml 3 141 = some (60, 1, true) := rfl
theorem gm3_153 : gx_ml 3 153 = some (23, 3, true) := rfl
theorem gm3_162 : gx_ml 3 162 = some (55, 1, true) := rfl
theorem gm3_165 : gx_ml 3 165 = some (14, 1, true) := rfl
theorem gm3_171 : gx_ml 3 171 = some (11, 2, true) := rfl
theorem gm3_175 : gx_ml 3 175 = some (12, 2, true) := rfl
theorem gm3_178 : gx_ml 3 178 = some (16, 2, true) := rfl
theorem gm3_182 : gx_ml 3 182 = some (13, 2, true) := rfl
theorem gm3_185 : gx_ml 3 185 = some (8, 1, true) := rfl
theorem gm3_188 : gx_ml 3 188 = some (50, 1, false) := rfl
theorem gm3_191 : gx_ml 3 191 = some (51, 1, false) := rfl
theorem gm3_194 : gx_ml 3 194 = some (9, 6, true) := rfl
theorem gm3_198 : gx_ml 3 198 = some (56, 3, true) := rfl
theorem gm3_211 : gx_ml 3 211 = some (24, 3, true) := rfl
theorem gm4_87 : gx_ml 4 87 = some (61, 5, true) := rfl
theorem gm4_95 : gx_ml 4 95 = some (62, 3, true) := rfl
theorem gm4_99 : gx_ml 4 99 = some (63, 1, true) := rfl
theorem gm4_103 : gx_ml 4 103 = some (64, 3, true) := rfl
theorem gm4_107 : gx_ml 4 107 = some (65, 1, true) := rfl
theorem gm4_110 : gx_ml 4 110 = some (66, 1, true) := rfl
theorem gm4_114 : gx_ml 4 114 = some (67, 1, true) := rfl
theorem gm4_124 : gx_ml 4 124 = some (68, 2, true) := rfl
theorem gm4_128 : gx_ml 4 128 = some (76, 1, true) := rfl
theorem gm4_131 : gx_ml 4 131 = some (69, 1, true) := rfl
theorem gm4_137 : gx_ml 4 137 = some (72, 3, true) := rfl
theorem gm4_141 : gx_ml 4 141 = some (71, 3, true) := rfl
theorem gm4_144 : gx_ml 4 144 = some (77, 1, true) := rfl
theorem gm4_147 : gx_ml 4 147 = some (78, 2, true) := rfl
theorem gm4_150 : gx_ml 4 150 = some (73, 2, true) := rfl
theorem gm4_154 : gx_ml 4 154 = some (74, 3, true) := rfl
theorem gm4_157 : gx_ml 4 157 = some (75, 4, true) := rfl
theorem gm4_161 : gx_ml 4 161 = some (79, 2, true) := rfl
theorem gm4_166 : gx_ml 4 166 = some (81, 2, false) := rfl
theorem gm4_169 : gx_ml 4 169 = some (80, 2, true) := rfl
theorem gm4_172 : gx_ml 4 172 = some (70, 1, true) := rfl
theorem gm4_175 : gx_ml 4 175 = some (90, 1, false) := rfl
theorem gm4_178 : gx_ml 4 178 = some (94, 3, true) := rfl
theorem gm1_53 : gx_ml 1 53 = none := rfl
theorem ga1_53 : gx_aT.lookup (1, 53) = some () := rfl
theorem gm2_37 : gx_ml 2 37 = none := rfl
theorem ga2_37 : gx_aT.lookup (2, 37) = some () := rfl
theorem gl0 : gx_at 0 = some (.inr (.inl (3, [some 1, some 2, some 3, some 28, some 29, some 32, some 33, none, none, none, none, none]))) := rfl
theorem gl1 : gx_at 1 = some (.inr (.inl (0, [some 4, some 5, some 6, some 7, some 8, some 9, some 10, none, none, none]))) := rfl
theorem gl2 : gx_at 2 = some (.inr (.inl (1, [some 11, some 12, some 13, some 14, some 15, some 16, some 17, some 18, some 19, some 20]))) := rfl
theorem gl3 : gx_at 3 = some (.inr (.inl (2, [some 21, some 22, none, some 23, some 24, some 25, some 26, some 27]))) := rfl
theorem gl4 : gx_at 4 = some (.inl (.int, 10)) := rfl
theorem gl5 : gx_at 5 = some (.inl (.int, 10)) := rfl
theorem gl6 : gx_at 6 = some (.inl (.int, 40)) := rfl
theorem gl7 : gx_at 7 = some (.inl (.int, 40)) := rfl
theorem gl8 : gx_at 8 = some (.inl (.int, 40)) := rfl
theorem gl9 : gx_at 9 = some (.inl (.int, 40)) := rfl
theorem gl10 : gx_at 10 = some (.inl (.boolean, 40)) := rfl
theorem gl11 : gx_at 11 = some (.inl (.int, 61)) := rfl
theorem gl12 : gx_at 12 = some (.inl (.int, 61)) := rfl
theorem gl13 : gx_at 13 = some (.inl (.int, 61)) := rfl
theorem gl14 : gx_at 14 = some (.inl (.int, 61)) := rfl
theorem gl15 : gx_at 15 = some (.inl (.int, 61)) := rfl
theorem gl16 : gx_at 16 = some (.inl (.boolean, 61)) := rfl
theorem gl17 : gx_at 17 = some (.inl (.int, 924)) := rfl
theorem gl18 : gx_at 18 = some (.inl (.int, 22)) := rfl
theorem gl19 : gx_at 19 = some (.inl (.int, 22)) := rfl
theorem gl20 : gx_at 20 = some (.inl (.int, 22)) := rfl
theorem gl21 : gx_at 21 = some (.inl (.int, 50)) := rfl
theorem gl22 : gx_at 22 = some (.inl (.int, 50)) := rfl
theorem gl23 : gx_at 23 = some (.inl (.int, 500)) := rfl
theorem gl24 : gx_at 24 = some (.inl (.int, 40)) := rfl
theorem gl25 : gx_at 25 = some (.inl (.int, 10)) := rfl
theorem gl26 : gx_at 26 = some (.inl (.int, 10)) := rfl
theorem gl27 : gx_at 27 = some (.inl (.int, 10)) := rfl
theorem gl28 : gx_at 28 = some (.inl (.int, 61)) := rfl
theorem gl29 : gx_at 29 = some (.inr (.inr [30, 31])) := rfl
theorem gl30 : gx_at 30 = some (.inl (.int, 61)) := rfl
theorem gl31 : gx_at 31 = some (.inl (.int, 61)) := rfl
theorem gl32 : gx_at 32 = some (.inl (.boolean, 2)) := rfl
theorem gl33 : gx_at 33 = some (.inl (.int, 40)) := rfl
theorem gl34 : gx_at 34 = some (.inr (.inl (4, [none, some 35, some 36, none, some 37, some 38, some 39, some 40, some 41, none, some 42, some 43, some 44, some 45, some 46, some 47, none, none, some 48, some 49, some 50, none, some 51, some 52, some 53, some 54, some 55, some 56, some 57]))) := rfl
theorem gl35 : gx_at 35 = some (.inl (.int, 10)) := rfl
theorem gl36 : gx_at 36 = some (.inl (.int, 10)) := rfl
theorem gl37 : gx_at 37 = some (.inl (.int, 40)) := rfl
theorem gl38 : gx_at 38 = some (.inl (.int, 40)) := rfl
theorem gl39 : gx_at 39 = some (.inl (.int, 40)) := rfl
theorem gl40 : gx_at 40 = some (.inl (.int, 40)) := rfl
theorem gl41 : gx_at 41 = some (.inl (.boolean, 40)) := rfl
theorem gl42 : gx_at 42 = some (.inl (.int, 40)) := rfl
theorem gl43 : gx_at 43 = some (.inl (.int, 40)) := rfl
theorem gl44 : gx_at 44 = some (.inl (.int, 10)) := rfl
theorem gl45 : gx_at 45 = some (.inl (.int, 576)) := rfl
theorem gl46 : gx_at 46 = some (.inl (.int, 24)) := rfl
theorem gl47 : gx_at 47 = some (.inl (.int, 24)) := rfl
theorem gl48 : gx_at 48 = some (.inl (.int, 2)) := rfl
theorem gl49 : gx_at 49 = some (.inl (.int, 80)) := rfl
theorem gl50 : gx_at 50 = some (.inl (.boolean, 40)) := rfl
theorem gl51 : gx_at 51 = some (.inl (.int, 80)) := rfl
theorem gl52 : gx_at 52 = some (.inl (.int, 80)) := rfl
theorem gl53 : gx_at 53 = some (.inl (.int, 800)) := rfl
theorem gl54 : gx_at 54 = some (.inl (.int, 40)) := rfl
theorem gl55 : gx_at 55 = some (.inl (.int, 10)) := rfl
theorem gl56 : gx_at 56 = some (.inl (.int, 12)) := rfl
theorem gl57 : gx_at 57 = some (.inl (.int, 10)) := rfl
theorem gt0_7 : gx_ty 0 7 = .int := rfl
theorem gt0_8 : gx_ty 0 8 = .int := rfl
theorem gt0_9 : gx_ty 0 9 = .int := rfl
theorem gt2_2 : gx_ty 2 2 = .int := rfl
theorem gt3_7 : gx_ty 3 7 = .int := rfl
theorem gt3_8 : gx_ty 3 8 = .boolean := rfl
theorem gt3_9 : gx_ty 3 9 = .boolean := rfl
theorem gt3_10 : gx_ty 3 10 = .boolean := rfl
theorem gt3_11 : gx_ty 3 11 = .boolean := rfl
theorem gt4_0 : gx_ty 4 0 = .int := rfl
theorem gt4_3 : gx_ty 4 3 = .int := rfl
theorem gt4_9 : gx_ty 4 9 = .boolean := rfl
theorem gt4_16 : gx_ty 4 16 = .int := rfl
theorem gt4_17 : gx_ty 4 17 = .boolean := rfl
theorem gt4_21 : gx_ty 4 21 = .int := rfl
theorem gk_bipush_m4 : (Int8.ofInt (-4)).toInt32 = (-4) := by decide
theorem gk_bipush_m3 : (Int8.ofInt (-3)).toInt32 = (-3) := by decide
theorem gk_bipush_m2 : (Int8.ofInt (-2)).toInt32 = (-2) := by decide
theorem gk_bipush_10 : (Int8.ofInt 10).toInt32 = 10 := by decide
theorem gk_bipush_20 : (Int8.ofInt 20).toInt32 = 20 := by decide
theorem gk_bipush_21 : (Int8.ofInt 21).toInt32 = 21 := by decide
theorem gk_bipush_22 : (Int8.ofInt 22).toInt32 = 22 := by decide
theorem gk_bipush_23 : (Int8.ofInt 23).toInt32 = 23 := by decide
theorem gk_bipush_24 : (Int8.ofInt 24).toInt32 = 24 := by decide
theorem gk_bipush_40 : (Int8.ofInt 40).toInt32 = 40 := by decide
theorem gk_bipush_42 : (Int8.ofInt 42).toInt32 = 42 := by decide
theorem gk_bipush_50 : (Int8.ofInt 50).toInt32 = 50 := by decide
theorem gk_bipush_60 : (Int8.ofInt 60).toInt32 = 60 := by decide
theorem gk_bipush_61 : (Int8.ofInt 61).toInt32 = 61 := by decide
theorem gk_iconst_m1 : Int32.ofInt (-1) = (-1) := by decide
theorem gk_iconst_0 : Int32.ofInt 0 = 0 := by decide
theorem gk_iconst_1 : Int32.ofInt 1 = 1 := by decide
theorem gk_iconst_2 : Int32.ofInt 2 = 2 := by decide
theorem gk_sipush_528 : (Int16.ofInt 528).toInt32 = 528 := by decide
theorem gk_sipush_576 : (Int16.ofInt 576).toInt32 = 576 := by decide
theorem gk_sipush_1000 : (Int16.ofInt 1000).toInt32 = 1000 := by decide
end
section
/-! The instructions, as rows to rewrite with: printed by wip/gen.py. -/
theorem gi0_0 : gx_ins 0 0 = some (false, .iload_n 1, 0) := rfl
theorem gi0_1 : gx_ins 0 1 = some (false, .ifCond .lt 15, 16) := rfl
theorem gi0_4 : gx_ins 0 4 = some (false, .iload_n 1, 0) := rfl
theorem gi0_5 : gx_ins 0 5 = some (false, .aload_n 0, 0) := rfl
theorem gi0_6 : gx_ins 0 6 = some (false, .getfield 34, 0) := rfl
theorem gi0_9 : gx_ins 0 9 = some (false, .if_icmp .ge 7, 16) := rfl
theorem gi0_12 : gx_ins 0 12 = some (false, .iconst 1, 0) := rfl
theorem gi0_13 : gx_ins 0 13 = some (false, .goto 4, 17) := rfl
theorem gi0_16 : gx_ins 0 16 = some (false, .iconst 0, 0) := rfl
theorem gi0_17 : gx_ins 0 17 = some (false, .ireturn, 0) := rfl
theorem gi1_0 : gx_ins 1 0 = some (false, .iload_n 1, 0) := rfl
theorem gi1_1 : gx_ins 1 1 = some (false, .ifCond .lt 24, 25) := rfl
theorem gi1_4 : gx_ins 1 4 = some (false, .iload_n 1, 0) := rfl
theorem gi1_5 : gx_ins 1 5 = some (false, .aload_n 0, 0) := rfl
theorem gi1_6 : gx_ins 1 6 = some (false, .getfield 38, 0) := rfl
theorem gi1_9 : gx_ins 1 9 = some (false, .if_icmp .ge 16, 25) := rfl
theorem gi1_12 : gx_ins 1 12 = some (false, .aload_n 0, 0) := rfl
theorem gi1_13 : gx_ins 1 13 = some (false, .getfield 30, 0) := rfl
theorem gi1_16 : gx_ins 1 16 = some (false, .iload_n 1, 0) := rfl
theorem gi1_17 : gx_ins 1 17 = some (false, .baload, 0) := rfl
theorem gi1_18 : gx_ins 1 18 = some (false, .ifCond .ne 7, 25) := rfl
theorem gi1_21 : gx_ins 1 21 = some (false, .iconst 1, 0) := rfl
theorem gi1_22 : gx_ins 1 22 = some (false, .goto 4, 26) := rfl
theorem gi1_25 : gx_ins 1 25 = some (false, .iconst 0, 0) := rfl
theorem gi1_26 : gx_ins 1 26 = some (false, .ireturn, 0) := rfl
theorem gi2_0 : gx_ins 2 0 = some (false, .aload_n 0, 0) := rfl
theorem gi2_1 : gx_ins 2 1 = some (false, .getfield 9, 0) := rfl
theorem gi2_4 : gx_ins 2 4 = some (false, .aload_n 0, 0) := rfl
theorem gi2_5 : gx_ins 2 5 = some (false, .getfield 34, 0) := rfl
theorem gi2_8 : gx_ins 2 8 = some (false, .iconst 0, 0) := rfl
theorem gi2_9 : gx_ins 2 9 = some (false, .iastore, 0) := rfl
theorem gi2_10 : gx_ins 2 10 = some (false, .aload_n 0, 0) := rfl
theorem gi2_11 : gx_ins 2 11 = some (false, .getfield 15, 0) := rfl
theorem gi2_14 : gx_ins 2 14 = some (false, .aload_n 0, 0) := rfl
theorem gi2_15 : gx_ins 2 15 = some (false, .getfield 34, 0) := rfl
theorem gi2_18 : gx_ins 2 18 = some (false, .iconst (-1), 0) := rfl
theorem gi2_19 : gx_ins 2 19 = some (false, .iastore, 0) := rfl
theorem gi2_20 : gx_ins 2 20 = some (false, .aload_n 0, 0) := rfl
theorem gi2_21 : gx_ins 2 21 = some (false, .dup, 0) := rfl
theorem gi2_22 : gx_ins 2 22 = some (false, .getfield 34, 0) := rfl
theorem gi2_25 : gx_ins 2 25 = some (false, .iconst 1, 0) := rfl
theorem gi2_26 : gx_ins 2 26 = some (false, .iadd, 0) := rfl
theorem gi2_27 : gx_ins 2 27 = some (false, .putfield 34, 0) := rfl
theorem gi2_30 : gx_ins 2 30 = some (false, .aload_n 0, 0) := rfl
theorem gi2_31 : gx_ins 2 31 = some (false, .getfield 34, 0) := rfl
theorem gi2_34 : gx_ins 2 34 = some (false, .iconst 1, 0) := rfl
theorem gi2_35 : gx_ins 2 35 = some (false, .isub, 0) := rfl
theorem gi2_36 : gx_ins 2 36 = some (false, .ireturn, 0) := rfl
theorem gi3_0 : gx_ins 3 0 = some (false, .aload_n 0, 0) := rfl
theorem gi3_1 : gx_ins 3 1 = some (false, .getfield 18, 0) := rfl
theorem gi3_4 : gx_ins 3 4 = some (false, .aload_n 0, 0) := rfl
theorem gi3_5 : gx_ins 3 5 = some (false, .getfield 38, 0) := rfl
theorem gi3_8 : gx_ins 3 8 = some (false, .iload_n 1, 0) := rfl
theorem gi3_9 : gx_ins 3 9 = some (false, .iastore, 0) := rfl
theorem gi3_10 : gx_ins 3 10 = some (false, .aload_n 0, 0) := rfl
theorem gi3_11 : gx_ins 3 11 = some (false, .getfield 21, 0) := rfl
theorem gi3_14 : gx_ins 3 14 = some (false, .aload_n 0, 0) := rfl
theorem gi3_15 : gx_ins 3 15 = some (false, .getfield 38, 0) := rfl
theorem gi3_18 : gx_ins 3 18 = some (false, .iload_n 2, 0) := rfl
theorem gi3_19 : gx_ins 3 19 = some (false, .iastore, 0) := rfl
theorem gi3_20 : gx_ins 3 20 = some (false, .aload_n 0, 0) := rfl
theorem gi3_21 : gx_ins 3 21 = some (false, .getfield 24, 0) := rfl
theorem gi3_24 : gx_ins 3 24 = some (false, .aload_n 0, 0) := rfl
theorem gi3_25 : gx_ins 3 25 = some (false, .getfield 38, 0) := rfl
theorem gi3_28 : gx_ins 3 28 = some (false, .iload_n 3, 0) := rfl
theorem gi3_29 : gx_ins 3 29 = some (false, .iastore, 0) := rfl
theorem gi3_30 : gx_ins 3 30 = some (false, .aload_n 0, 0) := rfl
theorem gi3_31 : gx_ins 3 31 = some (false, .getfield 27, 0) := rfl
theorem gi3_34 : gx_ins 3 34 = some (false, .aload_n 0, 0) := rfl
theorem gi3_35 : gx_ins 3 35 = some (false, .getfield 38, 0) := rfl
theorem gi3_38 : gx_ins 3 38 = some (false, .iload 4, 0) := rfl
theorem gi3_40 : gx_ins 3 40 = some (false, .iastore, 0) := rfl
theorem gi3_41 : gx_ins 3 41 = some (false, .aload_n 0, 0) := rfl
theorem gi3_42 : gx_ins 3 42 = some (false, .getfield 30, 0) := rfl
theorem gi3_45 : gx_ins 3 45 = some (false, .aload_n 0, 0) := rfl
theorem gi3_46 : gx_ins 3 46 = some (false, .getfield 38, 0) := rfl
theorem gi3_49 : gx_ins 3 49 = some (false, .iconst 0, 0) := rfl
theorem gi3_50 : gx_ins 3 50 = some (false, .bastore, 0) := rfl
theorem gi3_51 : gx_ins 3 51 = some (false, .aload_n 0, 0) := rfl
theorem gi3_52 : gx_ins 3 52 = some (false, .dup, 0) := rfl
theorem gi3_53 : gx_ins 3 53 = some (false, .getfield 38, 0) := rfl
theorem gi3_56 : gx_ins 3 56 = some (false, .iconst 1, 0) := rfl
theorem gi3_57 : gx_ins 3 57 = some (false, .iadd, 0) := rfl
theorem gi3_58 : gx_ins 3 58 = some (false, .putfield 38, 0) := rfl
theorem gi3_61 : gx_ins 3 61 = some (false, .aload_n 0, 0) := rfl
theorem gi3_62 : gx_ins 3 62 = some (false, .dup, 0) := rfl
theorem gi3_63 : gx_ins 3 63 = some (false, .getfield 41, 0) := rfl
theorem gi3_66 : gx_ins 3 66 = some (false, .iconst 1, 0) := rfl
theorem gi3_67 : gx_ins 3 67 = some (false, .iadd, 0) := rfl
theorem gi3_68 : gx_ins 3 68 = some (false, .putfield 41, 0) := rfl
theorem gi3_71 : gx_ins 3 71 = some (false, .aload_n 0, 0) := rfl
theorem gi3_72 : gx_ins 3 72 = some (false, .getfield 38, 0) := rfl
theorem gi3_75 : gx_ins 3 75 = some (false, .iconst 1, 0) := rfl
theorem gi3_76 : gx_ins 3 76 = some (false, .isub, 0) := rfl
theorem gi3_77 : gx_ins 3 77 = some (false, .ireturn, 0) := rfl
theorem gi4_0 : gx_ins 4 0 = some (false, .aload_n 0, 0) := rfl
theorem gi4_1 : gx_ins 4 1 = some (false, .getfield 30, 0) := rfl
theorem gi4_4 : gx_ins 4 4 = some (false, .iload_n 1, 0) := rfl
theorem gi4_5 : gx_ins 4 5 = some (false, .iconst 1, 0) := rfl
theorem gi4_6 : gx_ins 4 6 = some (false, .bastore, 0) := rfl
theorem gi4_7 : gx_ins 4 7 = some (false, .aload_n 0, 0) := rfl
theorem gi4_8 : gx_ins 4 8 = some (false, .dup, 0) := rfl
theorem gi4_9 : gx_ins 4 9 = some (false, .getfield 41, 0) := rfl
theorem gi4_12 : gx_ins 4 12 = some (false, .iconst 1, 0) := rfl
theorem gi4_13 : gx_ins 4 13 = some (false, .isub, 0) := rfl
theorem gi4_14 : gx_ins 4 14 = some (false, .putfield 41, 0) := rfl
theorem gi4_17 : gx_ins 4 17 = some (false, .aload_n 0, 0) := rfl
theorem gi4_18 : gx_ins 4 18 = some (false, .getfield 41, 0) := rfl
theorem gi4_21 : gx_ins 4 21 = some (false, .ireturn, 0) := rfl
theorem gi5_0 : gx_ins 5 0 = some (false, .aload_n 0, 0) := rfl
theorem gi5_1 : gx_ins 5 1 = some (false, .getfield 34, 0) := rfl
theorem gi5_4 : gx_ins 5 4 = some (false, .istore_n 1, 0) := rfl
theorem gi5_5 : gx_ins 5 5 = some (false, .aload_n 0, 0) := rfl
theorem gi5_6 : gx_ins 5 6 = some (false, .iconst 0, 0) := rfl
theorem gi5_7 : gx_ins 5 7 = some (false, .putfield 34, 0) := rfl
theorem gi5_10 : gx_ins 5 10 = some (false, .aload_n 0, 0) := rfl
theorem gi5_11 : gx_ins 5 11 = some (false, .iconst 0, 0) := rfl
theorem gi5_12 : gx_ins 5 12 = some (false, .putfield 38, 0) := rfl
theorem gi5_15 : gx_ins 5 15 = some (false, .aload_n 0, 0) := rfl
theorem gi5_16 : gx_ins 5 16 = some (false, .iconst 0, 0) := rfl
theorem gi5_17 : gx_ins 5 17 = some (false, .putfield 41, 0) := rfl
theorem gi5_20 : gx_ins 5 20 = some (false, .iload_n 1, 0) := rfl
theorem gi5_21 : gx_ins 5 21 = some (false, .ireturn, 0) := rfl
theorem gi6_0 : gx_ins 6 0 = some (false, .iconst 0, 0) := rfl
theorem gi6_1 : gx_ins 6 1 = some (false, .istore_n 3, 0) := rfl
theorem gi6_2 : gx_ins 6 2 = some (false, .iconst 0, 0) := rfl
theorem gi6_3 : gx_ins 6 3 = some (false, .istore 4, 0) := rfl
theorem gi6_5 : gx_ins 6 5 = some (true, .iload 4, 0) := rfl
theorem gi6_7 : gx_ins 6 7 = some (false, .aload_n 0, 0) := rfl
theorem gi6_8 : gx_ins 6 8 = some (false, .getfield 38, 0) := rfl
theorem gi6_11 : gx_ins 6 11 = some (false, .if_icmp .ge 37, 48) := rfl
theorem gi6_14 : gx_ins 6 14 = some (false, .aload_n 0, 0) := rfl
theorem gi6_15 : gx_ins 6 15 = some (false, .getfield 21, 0) := rfl
theorem gi6_18 : gx_ins 6 18 = some (false, .iload 4, 0) := rfl
theorem gi6_20 : gx_ins 6 20 = some (false, .iaload, 0) := rfl
theorem gi6_21 : gx_ins 6 21 = some (false, .iload_n 2, 0) := rfl
theorem gi6_22 : gx_ins 6 22 = some (false, .if_icmp .ne 20, 42) := rfl
theorem gi6_25 : gx_ins 6 25 = some (false, .aload_n 0, 0) := rfl
theorem gi6_26 : gx_ins 6 26 = some (false, .getfield 30, 0) := rfl
theorem gi6_29 : gx_ins 6 29 = some (false, .iload 4, 0) := rfl
theorem gi6_31 : gx_ins 6 31 = some (false, .baload, 0) := rfl
theorem gi6_32 : gx_ins 6 32 = some (false, .ifCond .ne 10, 42) := rfl
theorem gi6_35 : gx_ins 6 35 = some (false, .iload_n 3, 0) := rfl
theorem gi6_36 : gx_ins 6 36 = some (false, .aload_n 1, 0) := rfl
theorem gi6_37 : gx_ins 6 37 = some (false, .iload 4, 0) := rfl
theorem gi6_39 : gx_ins 6 39 = some (false, .iaload, 0) := rfl
theorem gi6_40 : gx_ins 6 40 = some (false, .iadd, 0) := rfl
theorem gi6_41 : gx_ins 6 41 = some (false, .istore_n 3, 0) := rfl
theorem gi6_42 : gx_ins 6 42 = some (false, .iinc 4 1, 0) := rfl
theorem gi6_45 : gx_ins 6 45 = some (false, .goto (-40), 5) := rfl
theorem gi6_48 : gx_ins 6 48 = some (false, .iload_n 3, 0) := rfl
theorem gi6_49 : gx_ins 6 49 = some (false, .ireturn, 0) := rfl
theorem gi7_0 : gx_ins 7 0 = some (false, .iconst 0, 0) := rfl
theorem gi7_1 : gx_ins 7 1 = some (false, .istore_n 3, 0) := rfl
theorem gi7_2 : gx_ins 7 2 = some (false, .iconst 0, 0) := rfl
theorem gi7_3 : gx_ins 7 3 = some (false, .istore 4, 0) := rfl
theorem gi7_5 : gx_ins 7 5 = some (true, .iload 4, 0) := rfl
theorem gi7_7 : gx_ins 7 7 = some (false, .aload_n 0, 0) := rfl
theorem gi7_8 : gx_ins 7 8 = some (false, .getfield 38, 0) := rfl
theorem gi7_11 : gx_ins 7 11 = some (false, .if_icmp .ge 37, 48) := rfl
theorem gi7_14 : gx_ins 7 14 = some (false, .aload_n 0, 0) := rfl
theorem gi7_15 : gx_ins 7 15 = some (false, .getfield 18, 0) := rfl
theorem gi7_18 : gx_ins 7 18 = some (false, .iload 4, 0) := rfl
theorem gi7_20 : gx_ins 7 20 = some (false, .iaload, 0) := rfl
theorem gi7_21 : gx_ins 7 21 = some (false, .iload_n 2, 0) := rfl
theorem gi7_22 : gx_ins 7 22 = some (false, .if_icmp .ne 20, 42) := rfl
theorem gi7_25 : gx_ins 7 25 = some (false, .aload_n 0, 0) := rfl
theorem gi7_26 : gx_ins 7 26 = some (false, .getfield 30, 0) := rfl
theorem gi7_29 : gx_ins 7 29 = some (false, .iload 4, 0) := rfl
theorem gi7_31 : gx_ins 7 31 = some (false, .baload, 0) := rfl
theorem gi7_32 : gx_ins 7 32 = some (false, .ifCond .ne 10, 42) := rfl
theorem gi7_35 : gx_ins 7 35 = some (false, .iload_n 3, 0) := rfl
theorem gi7_36 : gx_ins 7 36 = some (false, .aload_n 1, 0) := rfl
theorem gi7_37 : gx_ins 7 37 = some (false, .iload 4, 0) := rfl
theorem gi7_39 : gx_ins 7 39 = some (false, .iaload, 0) := rfl
theorem gi7_40 : gx_ins 7 40 = some (false, .iadd, 0) := rfl
theorem gi7_41 : gx_ins 7 41 = some (false, .istore_n 3, 0) := rfl
theorem gi7_42 : gx_ins 7 42 = some (false, .iinc 4 1, 0) := rfl
theorem gi7_45 : gx_ins 7 45 = some (false, .goto (-40), 5) := rfl
theorem gi7_48 : gx_ins 7 48 = some (false, .iload_n 3, 0) := rfl
theorem gi7_49 : gx_ins 7 49 = some (false, .ireturn, 0) := rfl
theorem gi8_0 : gx_ins 8 0 = some (false, .aload_n 0, 0) := rfl
theorem gi8_1 : gx_ins 8 1 = some (false, .getfield 9, 0) := rfl
theorem gi8_4 : gx_ins 8 4 = some (false, .iconst 0, 0) := rfl
theorem gi8_5 : gx_ins 8 5 = some (false, .invokestatic 43, 0) := rfl
theorem gi8_8 : gx_ins 8 8 = some (false, .aload_n 0, 0) := rfl
theorem gi8_9 : gx_ins 8 9 = some (false, .getfield 15, 0) := rfl
theorem gi8_12 : gx_ins 8 12 = some (false, .iconst 0, 0) := rfl
theorem gi8_13 : gx_ins 8 13 = some (false, .invokestatic 43, 0) := rfl
theorem gi8_16 : gx_ins 8 16 = some (false, .aload_n 0, 0) := rfl
theorem gi8_17 : gx_ins 8 17 = some (false, .getfield 24, 0) := rfl
theorem gi8_20 : gx_ins 8 20 = some (false, .iconst 0, 0) := rfl
theorem gi8_21 : gx_ins 8 21 = some (false, .invokestatic 43, 0) := rfl
theorem gi8_24 : gx_ins 8 24 = some (false, .aload_n 0, 0) := rfl
theorem gi8_25 : gx_ins 8 25 = some (false, .getfield 34, 0) := rfl
theorem gi8_28 : gx_ins 8 28 = some (false, .iconst 0, 0) := rfl
theorem gi8_29 : gx_ins 8 29 = some (false, .invokestatic 43, 0) := rfl
theorem gi8_32 : gx_ins 8 32 = some (false, .iconst 0, 0) := rfl
theorem gi8_33 : gx_ins 8 33 = some (false, .istore_n 1, 0) := rfl
theorem gi8_34 : gx_ins 8 34 = some (true, .iload_n 1, 0) := rfl
theorem gi8_35 : gx_ins 8 35 = some (false, .bipush 61, 0) := rfl
theorem gi8_37 : gx_ins 8 37 = some (false, .if_icmp .ge 16, 53) := rfl
theorem gi8_40 : gx_ins 8 40 = some (false, .aload_n 0, 0) := rfl
theorem gi8_41 : gx_ins 8 41 = some (false, .getfield 27, 0) := rfl
theorem gi8_44 : gx_ins 8 44 = some (false, .iload_n 1, 0) := rfl
theorem gi8_45 : gx_ins 8 45 = some (false, .iconst 0, 0) := rfl
theorem gi8_46 : gx_ins 8 46 = some (false, .bastore, 0) := rfl
theorem gi8_47 : gx_ins 8 47 = some (false, .iinc 1 1, 0) := rfl
theorem gi8_50 : gx_ins 8 50 = some (false, .goto (-16), 34) := rfl
theorem gi8_53 : gx_ins 8 53 = some (false, .return_, 0) := rfl
theorem gi9_0 : gx_ins 9 0 = some (false, .aload_n 0, 0) := rfl
theorem gi9_1 : gx_ins 9 1 = some (false, .getfield 18, 0) := rfl
theorem gi9_4 : gx_ins 9 4 = some (false, .iload_n 1, 0) := rfl
theorem gi9_5 : gx_ins 9 5 = some (false, .iload_n 2, 0) := rfl
theorem gi9_6 : gx_ins 9 6 = some (false, .iastore, 0) := rfl
theorem gi9_7 : gx_ins 9 7 = some (false, .aload_n 0, 0) := rfl
theorem gi9_8 : gx_ins 9 8 = some (false, .getfield 21, 0) := rfl
theorem gi9_11 : gx_ins 9 11 = some (false, .iload_n 1, 0) := rfl
theorem gi9_12 : gx_ins 9 12 = some (false, .iload_n 3, 0) := rfl
theorem gi9_13 : gx_ins 9 13 = some (false, .iastore, 0) := rfl
theorem gi9_14 : gx_ins 9 14 = some (false, .aload_n 0, 0) := rfl
theorem gi9_15 : gx_ins 9 15 = some (false, .getfield 9, 0) := rfl
theorem gi9_18 : gx_ins 9 18 = some (false, .iload_n 1, 0) := rfl
theorem gi9_19 : gx_ins 9 19 = some (false, .iload 4, 0) := rfl
theorem gi9_21 : gx_ins 9 21 = some (false, .iastore, 0) := rfl
theorem gi9_22 : gx_ins 9 22 = some (false, .aload_n 0, 0) := rfl
theorem gi9_23 : gx_ins 9 23 = some (false, .getfield 15, 0) := rfl
theorem gi9_26 : gx_ins 9 26 = some (false, .iload_n 1, 0) := rfl
theorem gi9_27 : gx_ins 9 27 = some (false, .iload 5, 0) := rfl
theorem gi9_29 : gx_ins 9 29 = some (false, .iastore, 0) := rfl
theorem gi9_30 : gx_ins 9 30 = some (false, .aload_n 0, 0) := rfl
theorem gi9_31 : gx_ins 9 31 = some (false, .iload_n 2, 0) := rfl
theorem gi9_32 : gx_ins 9 32 = some (false, .iconst 2, 0) := rfl
theorem gi9_33 : gx_ins 9 33 = some (false, .iload_n 1, 0) := rfl
theorem gi9_34 : gx_ins 9 34 = some (false, .imul, 0) := rfl
theorem gi9_35 : gx_ins 9 35 = some (false, .invokevirtual 49, 0) := rfl
theorem gi9_38 : gx_ins 9 38 = some (false, .aload_n 0, 0) := rfl
theorem gi9_39 : gx_ins 9 39 = some (false, .iload_n 3, 0) := rfl
theorem gi9_40 : gx_ins 9 40 = some (false, .iconst 2, 0) := rfl
theorem gi9_41 : gx_ins 9 41 = some (false, .iload_n 1, 0) := rfl
theorem gi9_42 : gx_ins 9 42 = some (false, .imul, 0) := rfl
theorem gi9_43 : gx_ins 9 43 = some (false, .iconst 1, 0) := rfl
theorem gi9_44 : gx_ins 9 44 = some (false, .iadd, 0) := rfl
theorem gi9_45 : gx_ins 9 45 = some (false, .invokevirtual 49, 0) := rfl
theorem gi9_48 : gx_ins 9 48 = some (false, .return_, 0) := rfl
theorem gi10_0 : gx_ins 10 0 = some (false, .aload_n 0, 0) := rfl
theorem gi10_1 : gx_ins 10 1 = some (false, .getfield 34, 0) := rfl
theorem gi10_4 : gx_ins 10 4 = some (false, .iload_n 1, 0) := rfl
theorem gi10_5 : gx_ins 10 5 = some (false, .iaload, 0) := rfl
theorem gi10_6 : gx_ins 10 6 = some (false, .istore_n 3, 0) := rfl
theorem gi10_7 : gx_ins 10 7 = some (false, .iload_n 3, 0) := rfl
theorem gi10_8 : gx_ins 10 8 = some (false, .bipush 42, 0) := rfl
theorem gi10_10 : gx_ins 10 10 = some (false, .if_icmp .ge 24, 34) := rfl
theorem gi10_13 : gx_ins 10 13 = some (false, .aload_n 0, 0) := rfl
theorem gi10_14 : gx_ins 10 14 = some (false, .getfield 31, 0) := rfl
theorem gi10_17 : gx_ins 10 17 = some (false, .iload_n 1, 0) := rfl
theorem gi10_18 : gx_ins 10 18 = some (false, .bipush 42, 0) := rfl
theorem gi10_20 : gx_ins 10 20 = some (false, .imul, 0) := rfl
theorem gi10_21 : gx_ins 10 21 = some (false, .iload_n 3, 0) := rfl
theorem gi10_22 : gx_ins 10 22 = some (false, .iadd, 0) := rfl
theorem gi10_23 : gx_ins 10 23 = some (false, .iload_n 2, 0) := rfl
theorem gi10_24 : gx_ins 10 24 = some (false, .iastore, 0) := rfl
theorem gi10_25 : gx_ins 10 25 = some (false, .aload_n 0, 0) := rfl
theorem gi10_26 : gx_ins 10 26 = some (false, .getfield 34, 0) := rfl
theorem gi10_29 : gx_ins 10 29 = some (false, .iload_n 1, 0) := rfl
theorem gi10_30 : gx_ins 10 30 = some (false, .iload_n 3, 0) := rfl
theorem gi10_31 : gx_ins 10 31 = some (false, .iconst 1, 0) := rfl
theorem gi10_32 : gx_ins 10 32 = some (false, .iadd, 0) := rfl
theorem gi10_33 : gx_ins 10 33 = some (false, .iastore, 0) := rfl
theorem gi10_34 : gx_ins 10 34 = some (false, .return_, 0) := rfl
theorem gi11_0 : gx_ins 11 0 = some (false, .aload_n 0, 0) := rfl
theorem gi11_1 : gx_ins 11 1 = some (false, .getfield 24, 0) := rfl
theorem gi11_4 : gx_ins 11 4 = some (false, .iconst 0, 0) := rfl
theorem gi11_5 : gx_ins 11 5 = some (false, .aload_n 1, 0) := rfl
theorem gi11_6 : gx_ins 11 6 = some (false, .iconst 0, 0) := rfl
theorem gi11_7 : gx_ins 11 7 = some (false, .bipush 61, 0) := rfl
theorem gi11_9 : gx_ins 11 9 = some (false, .invokestatic 53, 0) := rfl
theorem gi11_12 : gx_ins 11 12 = some (false, .return_, 0) := rfl
theorem gi12_0 : gx_ins 12 0 = some (false, .aload_n 1, 0) := rfl
theorem gi12_1 : gx_ins 12 1 = some (false, .iconst 0, 0) := rfl
theorem gi12_2 : gx_ins 12 2 = some (false, .aload_n 0, 0) := rfl
theorem gi12_3 : gx_ins 12 3 = some (false, .getfield 24, 0) := rfl
theorem gi12_6 : gx_ins 12 6 = some (false, .iconst 0, 0) := rfl
theorem gi12_7 : gx_ins 12 7 = some (false, .bipush 61, 0) := rfl
theorem gi12_9 : gx_ins 12 9 = some (false, .invokestatic 53, 0) := rfl
theorem gi12_12 : gx_ins 12 12 = some (false, .return_, 0) := rfl
theorem gi13_0 : gx_ins 13 0 = some (false, .aload_n 0, 0) := rfl
theorem gi13_1 : gx_ins 13 1 = some (false, .getfield 27, 0) := rfl
theorem gi13_4 : gx_ins 13 4 = some (false, .iload_n 1, 0) := rfl
theorem gi13_5 : gx_ins 13 5 = some (false, .iconst 1, 0) := rfl
theorem gi13_6 : gx_ins 13 6 = some (false, .bastore, 0) := rfl
theorem gi13_7 : gx_ins 13 7 = some (false, .return_, 0) := rfl
theorem gi14_0 : gx_ins 14 0 = some (false, .iconst 0, 0) := rfl
theorem gi14_1 : gx_ins 14 1 = some (false, .istore_n 1, 0) := rfl
theorem gi14_2 : gx_ins 14 2 = some (true, .iload_n 1, 0) := rfl
theorem gi14_3 : gx_ins 14 3 = some (false, .bipush 40, 0) := rfl
theorem gi14_5 : gx_ins 14 5 = some (false, .if_icmp .ge 39, 44) := rfl
theorem gi14_8 : gx_ins 14 8 = some (false, .aload_n 0, 0) := rfl
theorem gi14_9 : gx_ins 14 9 = some (false, .getfield 9, 0) := rfl
theorem gi14_12 : gx_ins 14 12 = some (false, .iload_n 1, 0) := rfl
theorem gi14_13 : gx_ins 14 13 = some (false, .iaload, 0) := rfl
theorem gi14_14 : gx_ins 14 14 = some (false, .aload_n 0, 0) := rfl
theorem gi14_15 : gx_ins 14 15 = some (false, .getfield 24, 0) := rfl
theorem gi14_18 : gx_ins 14 18 = some (false, .iload_n 1, 0) := rfl
theorem gi14_19 : gx_ins 14 19 = some (false, .iaload, 0) := rfl
theorem gi14_20 : gx_ins 14 20 = some (false, .isub, 0) := rfl
theorem gi14_21 : gx_ins 14 21 = some (false, .istore_n 2, 0) := rfl
theorem gi14_22 : gx_ins 14 22 = some (false, .iload_n 2, 0) := rfl
theorem gi14_23 : gx_ins 14 23 = some (false, .ifCond .le 15, 38) := rfl
theorem gi14_26 : gx_ins 14 26 = some (false, .aload_n 0, 0) := rfl
theorem gi14_27 : gx_ins 14 27 = some (false, .iload_n 1, 0) := rfl
theorem gi14_28 : gx_ins 14 28 = some (false, .iload_n 2, 0) := rfl
theorem gi14_29 : gx_ins 14 29 = some (false, .invokevirtual 59, 0) := rfl
theorem gi14_32 : gx_ins 14 32 = some (false, .iload_n 2, 0) := rfl
theorem gi14_33 : gx_ins 14 33 = some (false, .if_icmp .ge 5, 38) := rfl
theorem gi14_36 : gx_ins 14 36 = some (false, .iconst 0, 0) := rfl
theorem gi14_37 : gx_ins 14 37 = some (false, .ireturn, 0) := rfl
theorem gi14_38 : gx_ins 14 38 = some (false, .iinc 1 1, 0) := rfl
theorem gi14_41 : gx_ins 14 41 = some (false, .goto (-39), 2) := rfl
theorem gi14_44 : gx_ins 14 44 = some (false, .iconst 1, 0) := rfl
theorem gi14_45 : gx_ins 14 45 = some (false, .ireturn, 0) := rfl
theorem gi15_0 : gx_ins 15 0 = some (false, .aload_n 0, 0) := rfl
theorem gi15_1 : gx_ins 15 1 = some (false, .getfield 27, 0) := rfl
theorem gi15_4 : gx_ins 15 4 = some (false, .iload_n 1, 0) := rfl
theorem gi15_5 : gx_ins 15 5 = some (false, .iconst 1, 0) := rfl
theorem gi15_6 : gx_ins 15 6 = some (false, .bastore, 0) := rfl
theorem gi15_7 : gx_ins 15 7 = some (false, .aload_n 0, 0) := rfl
theorem gi15_8 : gx_ins 15 8 = some (false, .aload_n 0, 0) := rfl
theorem gi15_9 : gx_ins 15 9 = some (false, .getfield 21, 0) := rfl
theorem gi15_12 : gx_ins 15 12 = some (false, .iload_n 1, 0) := rfl
theorem gi15_13 : gx_ins 15 13 = some (false, .iaload, 0) := rfl
theorem gi15_14 : gx_ins 15 14 = some (false, .aload_n 0, 0) := rfl
theorem gi15_15 : gx_ins 15 15 = some (false, .getfield 18, 0) := rfl
theorem gi15_18 : gx_ins 15 18 = some (false, .iload_n 1, 0) := rfl
theorem gi15_19 : gx_ins 15 19 = some (false, .iaload, 0) := rfl
theorem gi15_20 : gx_ins 15 20 = some (false, .iload_n 2, 0) := rfl
theorem gi15_21 : gx_ins 15 21 = some (false, .aload_n 0, 0) := rfl
theorem gi15_22 : gx_ins 15 22 = some (false, .getfield 15, 0) := rfl
theorem gi15_25 : gx_ins 15 25 = some (false, .iload_n 1, 0) := rfl
theorem gi15_26 : gx_ins 15 26 = some (false, .iaload, 0) := rfl
theorem gi15_27 : gx_ins 15 27 = some (false, .aload_n 0, 0) := rfl
theorem gi15_28 : gx_ins 15 28 = some (false, .getfield 24, 0) := rfl
theorem gi15_31 : gx_ins 15 31 = some (false, .iload_n 1, 0) := rfl
theorem gi15_32 : gx_ins 15 32 = some (false, .iaload, 0) := rfl
theorem gi15_33 : gx_ins 15 33 = some (false, .isub, 0) := rfl
theorem gi15_34 : gx_ins 15 34 = some (false, .invokestatic 63, 0) := rfl
theorem gi15_37 : gx_ins 15 37 = some (false, .invokevirtual 68, 0) := rfl
theorem gi15_40 : gx_ins 15 40 = some (false, .istore_n 3, 0) := rfl
theorem gi15_41 : gx_ins 15 41 = some (false, .aload_n 0, 0) := rfl
theorem gi15_42 : gx_ins 15 42 = some (false, .getfield 24, 0) := rfl
theorem gi15_45 : gx_ins 15 45 = some (false, .iload_n 1, 0) := rfl
theorem gi15_46 : gx_ins 15 46 = some (false, .dup2, 0) := rfl
theorem gi15_47 : gx_ins 15 47 = some (false, .iaload, 0) := rfl
theorem gi15_48 : gx_ins 15 48 = some (false, .iload_n 3, 0) := rfl
theorem gi15_49 : gx_ins 15 49 = some (false, .iadd, 0) := rfl
theorem gi15_50 : gx_ins 15 50 = some (false, .iastore, 0) := rfl
theorem gi15_51 : gx_ins 15 51 = some (false, .aload_n 0, 0) := rfl
theorem gi15_52 : gx_ins 15 52 = some (false, .getfield 27, 0) := rfl
theorem gi15_55 : gx_ins 15 55 = some (false, .iload_n 1, 0) := rfl
theorem gi15_56 : gx_ins 15 56 = some (false, .iconst 0, 0) := rfl
theorem gi15_57 : gx_ins 15 57 = some (false, .bastore, 0) := rfl
theorem gi15_58 : gx_ins 15 58 = some (false, .iload_n 3, 0) := rfl
theorem gi15_59 : gx_ins 15 59 = some (false, .ireturn, 0) := rfl
theorem gi16_0 : gx_ins 16 0 = some (false, .aload_n 0, 0) := rfl
theorem gi16_1 : gx_ins 16 1 = some (false, .getfield 27, 0) := rfl
theorem gi16_4 : gx_ins 16 4 = some (false, .iload_n 1, 0) := rfl
theorem gi16_5 : gx_ins 16 5 = some (false, .iconst 1, 0) := rfl
theorem gi16_6 : gx_ins 16 6 = some (false, .bastore, 0) := rfl
theorem gi16_7 : gx_ins 16 7 = some (false, .aload_n 0, 0) := rfl
theorem gi16_8 : gx_ins 16 8 = some (false, .getfield 24, 0) := rfl
theorem gi16_11 : gx_ins 16 11 = some (false, .iload_n 1, 0) := rfl
theorem gi16_12 : gx_ins 16 12 = some (false, .dup2, 0) := rfl
theorem gi16_13 : gx_ins 16 13 = some (false, .iaload, 0) := rfl
theorem gi16_14 : gx_ins 16 14 = some (false, .aload_n 0, 0) := rfl
theorem gi16_15 : gx_ins 16 15 = some (false, .aload_n 0, 0) := rfl
theorem gi16_16 : gx_ins 16 16 = some (false, .getfield 18, 0) := rfl
theorem gi16_19 : gx_ins 16 19 = some (false, .iload_n 1, 0) := rfl
theorem gi16_20 : gx_ins 16 20 = some (false, .iaload, 0) := rfl
theorem gi16_21 : gx_ins 16 21 = some (false, .aload_n 0, 0) := rfl
theorem gi16_22 : gx_ins 16 22 = some (false, .getfield 21, 0) := rfl
theorem gi16_25 : gx_ins 16 25 = some (false, .iload_n 1, 0) := rfl
theorem gi16_26 : gx_ins 16 26 = some (false, .iaload, 0) := rfl
theorem gi16_27 : gx_ins 16 27 = some (false, .aload_n 0, 0) := rfl
theorem gi16_28 : gx_ins 16 28 = some (false, .getfield 24, 0) := rfl
theorem gi16_31 : gx_ins 16 31 = some (false, .iload_n 1, 0) := rfl
theorem gi16_32 : gx_ins 16 32 = some (false, .iaload, 0) := rfl
theorem gi16_33 : gx_ins 16 33 = some (false, .aload_n 0, 0) := rfl
theorem gi16_34 : gx_ins 16 34 = some (false, .getfield 9, 0) := rfl
theorem gi16_37 : gx_ins 16 37 = some (false, .iload_n 1, 0) := rfl
theorem gi16_38 : gx_ins 16 38 = some (false, .iaload, 0) := rfl
theorem gi16_39 : gx_ins 16 39 = some (false, .isub, 0) := rfl
theorem gi16_40 : gx_ins 16 40 = some (false, .invokevirtual 68, 0) := rfl
theorem gi16_43 : gx_ins 16 43 = some (false, .isub, 0) := rfl
theorem gi16_44 : gx_ins 16 44 = some (false, .iastore, 0) := rfl
theorem gi16_45 : gx_ins 16 45 = some (false, .aload_n 0, 0) := rfl
theorem gi16_46 : gx_ins 16 46 = some (false, .getfield 27, 0) := rfl
theorem gi16_49 : gx_ins 16 49 = some (false, .iload_n 1, 0) := rfl
theorem gi16_50 : gx_ins 16 50 = some (false, .iconst 0, 0) := rfl
theorem gi16_51 : gx_ins 16 51 = some (false, .bastore, 0) := rfl
theorem gi16_52 : gx_ins 16 52 = some (false, .return_, 0) := rfl
theorem gi17_0 : gx_ins 17 0 = some (false, .iconst 0, 0) := rfl
theorem gi17_1 : gx_ins 17 1 = some (false, .istore 4, 0) := rfl
theorem gi17_3 : gx_ins 17 3 = some (false, .iconst 0, 0) := rfl
theorem gi17_4 : gx_ins 17 4 = some (false, .istore 5, 0) := rfl
theorem gi17_6 : gx_ins 17 6 = some (true, .iload 5, 0) := rfl
theorem gi17_8 : gx_ins 17 8 = some (false, .iload_n 3, 0) := rfl
theorem gi17_9 : gx_ins 17 9 = some (false, .if_icmp .ge 55, 64) := rfl
theorem gi17_12 : gx_ins 17 12 = some (false, .iload 4, 0) := rfl
theorem gi17_14 : gx_ins 17 14 = some (false, .iload_n 3, 0) := rfl
theorem gi17_15 : gx_ins 17 15 = some (false, .if_icmp .ge 49, 64) := rfl
theorem gi17_18 : gx_ins 17 18 = some (false, .aload_n 0, 0) := rfl
theorem gi17_19 : gx_ins 17 19 = some (false, .iload_n 1, 0) := rfl
theorem gi17_20 : gx_ins 17 20 = some (false, .iload_n 2, 0) := rfl
theorem gi17_21 : gx_ins 17 21 = some (false, .invokevirtual 72, 0) := rfl
theorem gi17_24 : gx_ins 17 24 = some (false, .ifCond .ne 6, 30) := rfl
theorem gi17_27 : gx_ins 17 27 = some (false, .goto 37, 64) := rfl
theorem gi17_30 : gx_ins 17 30 = some (false, .iload_n 3, 0) := rfl
theorem gi17_31 : gx_ins 17 31 = some (false, .iload 4, 0) := rfl
theorem gi17_33 : gx_ins 17 33 = some (false, .isub, 0) := rfl
theorem gi17_34 : gx_ins 17 34 = some (false, .aload_n 0, 0) := rfl
theorem gi17_35 : gx_ins 17 35 = some (false, .iload_n 2, 0) := rfl
theorem gi17_36 : gx_ins 17 36 = some (false, .invokevirtual 76, 0) := rfl
theorem gi17_39 : gx_ins 17 39 = some (false, .invokestatic 63, 0) := rfl
theorem gi17_42 : gx_ins 17 42 = some (false, .istore 6, 0) := rfl
theorem gi17_44 : gx_ins 17 44 = some (false, .aload_n 0, 0) := rfl
theorem gi17_45 : gx_ins 17 45 = some (false, .iload_n 2, 0) := rfl
theorem gi17_46 : gx_ins 17 46 = some (false, .iload 6, 0) := rfl
theorem gi17_48 : gx_ins 17 48 = some (false, .invokevirtual 80, 0) := rfl
theorem gi17_51 : gx_ins 17 51 = some (false, .iload 4, 0) := rfl
theorem gi17_53 : gx_ins 17 53 = some (false, .iload 6, 0) := rfl
theorem gi17_55 : gx_ins 17 55 = some (false, .iadd, 0) := rfl
theorem gi17_56 : gx_ins 17 56 = some (false, .istore 4, 0) := rfl
theorem gi17_58 : gx_ins 17 58 = some (false, .iinc 5 1, 0) := rfl
theorem gi17_61 : gx_ins 17 61 = some (false, .goto (-55), 6) := rfl
theorem gi17_64 : gx_ins 17 64 = some (false, .iload 4, 0) := rfl
theorem gi17_66 : gx_ins 17 66 = some (false, .ireturn, 0) := rfl
theorem gi18_0 : gx_ins 18 0 = some (false, .aload_n 0, 0) := rfl
theorem gi18_1 : gx_ins 18 1 = some (false, .getfield 37, 0) := rfl
theorem gi18_4 : gx_ins 18 4 = some (false, .iconst (-1), 0) := rfl
theorem gi18_5 : gx_ins 18 5 = some (false, .invokestatic 43, 0) := rfl
theorem gi18_8 : gx_ins 18 8 = some (false, .aload_n 0, 0) := rfl
theorem gi18_9 : gx_ins 18 9 = some (false, .getfield 40, 0) := rfl
theorem gi18_12 : gx_ins 18 12 = some (false, .iconst 0, 0) := rfl
theorem gi18_13 : gx_ins 18 13 = some (false, .iload_n 1, 0) := rfl
theorem gi18_14 : gx_ins 18 14 = some (false, .iastore, 0) := rfl
theorem gi18_15 : gx_ins 18 15 = some (false, .iconst 1, 0) := rfl
theorem gi18_16 : gx_ins 18 16 = some (false, .istore_n 3, 0) := rfl
theorem gi18_17 : gx_ins 18 17 = some (false, .iconst 0, 0) := rfl
theorem gi18_18 : gx_ins 18 18 = some (false, .istore 4, 0) := rfl
theorem gi18_20 : gx_ins 18 20 = some (true, .iload 4, 0) := rfl
theorem gi18_22 : gx_ins 18 22 = some (false, .iload_n 3, 0) := rfl
theorem gi18_23 : gx_ins 18 23 = some (false, .if_icmp .ge 123, 146) := rfl
theorem gi18_26 : gx_ins 18 26 = some (false, .iload 4, 0) := rfl
theorem gi18_28 : gx_ins 18 28 = some (false, .bipush 22, 0) := rfl
theorem gi18_30 : gx_ins 18 30 = some (false, .if_icmp .ge 116, 146) := rfl
theorem gi18_33 : gx_ins 18 33 = some (false, .aload_n 0, 0) := rfl
theorem gi18_34 : gx_ins 18 34 = some (false, .getfield 40, 0) := rfl
theorem gi18_37 : gx_ins 18 37 = some (false, .iload 4, 0) := rfl
theorem gi18_39 : gx_ins 18 39 = some (false, .iaload, 0) := rfl
theorem gi18_40 : gx_ins 18 40 = some (false, .istore 5, 0) := rfl
theorem gi18_42 : gx_ins 18 42 = some (false, .iconst 0, 0) := rfl
theorem gi18_43 : gx_ins 18 43 = some (false, .istore 6, 0) := rfl
theorem gi18_45 : gx_ins 18 45 = some (true, .iload 6, 0) := rfl
theorem gi18_47 : gx_ins 18 47 = some (false, .aload_n 0, 0) := rfl
theorem gi18_48 : gx_ins 18 48 = some (false, .getfield 34, 0) := rfl
theorem gi18_51 : gx_ins 18 51 = some (false, .iload 5, 0) := rfl
theorem gi18_53 : gx_ins 18 53 = some (false, .iaload, 0) := rfl
theorem gi18_54 : gx_ins 18 54 = some (false, .if_icmp .ge 86, 140) := rfl
theorem gi18_57 : gx_ins 18 57 = some (false, .aload_n 0, 0) := rfl
theorem gi18_58 : gx_ins 18 58 = some (false, .getfield 31, 0) := rfl
theorem gi18_61 : gx_ins 18 61 = some (false, .iload 5, 0) := rfl
theorem gi18_63 : gx_ins 18 63 = some (false, .bipush 42, 0) := rfl
theorem gi18_65 : gx_ins 18 65 = some (false, .imul, 0) := rfl
theorem gi18_66 : gx_ins 18 66 = some (false, .iload 6, 0) := rfl
theorem gi18_68 : gx_ins 18 68 = some (false, .iadd, 0) := rfl
theorem gi18_69 : gx_ins 18 69 = some (false, .iaload, 0) := rfl
theorem gi18_70 : gx_ins 18 70 = some (false, .istore 7, 0) := rfl
theorem gi18_72 : gx_ins 18 72 = some (false, .aload_n 0, 0) := rfl
theorem gi18_73 : gx_ins 18 73 = some (false, .iload 7, 0) := rfl
theorem gi18_75 : gx_ins 18 75 = some (false, .invokevirtual 83, 0) := rfl
theorem gi18_78 : gx_ins 18 78 = some (false, .istore 8, 0) := rfl
theorem gi18_80 : gx_ins 18 80 = some (false, .iload 8, 0) := rfl
theorem gi18_82 : gx_ins 18 82 = some (false, .iload_n 1, 0) := rfl
theorem gi18_83 : gx_ins 18 83 = some (false, .if_icmp .eq 51, 134) := rfl
theorem gi18_86 : gx_ins 18 86 = some (false, .aload_n 0, 0) := rfl
theorem gi18_87 : gx_ins 18 87 = some (false, .getfield 37, 0) := rfl
theorem gi18_90 : gx_ins 18 90 = some (false, .iload 8, 0) := rfl
theorem gi18_92 : gx_ins 18 92 = some (false, .iaload, 0) := rfl
theorem gi18_93 : gx_ins 18 93 = some (false, .iconst (-1), 0) := rfl
theorem gi18_94 : gx_ins 18 94 = some (false, .if_icmp .ne 40, 134) := rfl
theorem gi18_97 : gx_ins 18 97 = some (false, .aload_n 0, 0) := rfl
theorem gi18_98 : gx_ins 18 98 = some (false, .iload 7, 0) := rfl
theorem gi18_100 : gx_ins 18 100 = some (false, .invokevirtual 86, 0) := rfl
theorem gi18_103 : gx_ins 18 103 = some (false, .ifCond .le 31, 134) := rfl
theorem gi18_106 : gx_ins 18 106 = some (false, .aload_n 0, 0) := rfl
theorem gi18_107 : gx_ins 18 107 = some (false, .getfield 37, 0) := rfl
theorem gi18_110 : gx_ins 18 110 = some (false, .iload 8, 0) := rfl
theorem gi18_112 : gx_ins 18 112 = some (false, .iload 7, 0) := rfl
theorem gi18_114 : gx_ins 18 114 = some (false, .iastore, 0) := rfl
theorem gi18_115 : gx_ins 18 115 = some (false, .iload 8, 0) := rfl
theorem gi18_117 : gx_ins 18 117 = some (false, .iload_n 2, 0) := rfl
theorem gi18_118 : gx_ins 18 118 = some (false, .if_icmp .ne 5, 123) := rfl
theorem gi18_121 : gx_ins 18 121 = some (false, .iconst 1, 0) := rfl
theorem gi18_122 : gx_ins 18 122 = some (false, .ireturn, 0) := rfl
theorem gi18_123 : gx_ins 18 123 = some (false, .aload_n 0, 0) := rfl
theorem gi18_124 : gx_ins 18 124 = some (false, .getfield 40, 0) := rfl
theorem gi18_127 : gx_ins 18 127 = some (false, .iload_n 3, 0) := rfl
theorem gi18_128 : gx_ins 18 128 = some (false, .iload 8, 0) := rfl
theorem gi18_130 : gx_ins 18 130 = some (false, .iastore, 0) := rfl
theorem gi18_131 : gx_ins 18 131 = some (false, .iinc 3 1, 0) := rfl
theorem gi18_134 : gx_ins 18 134 = some (false, .iinc 6 1, 0) := rfl
theorem gi18_137 : gx_ins 18 137 = some (false, .goto (-92), 45) := rfl
theorem gi18_140 : gx_ins 18 140 = some (false, .iinc 4 1, 0) := rfl
theorem gi18_143 : gx_ins 18 143 = some (false, .goto (-123), 20) := rfl
theorem gi18_146 : gx_ins 18 146 = some (false, .iconst 0, 0) := rfl
theorem gi18_147 : gx_ins 18 147 = some (false, .ireturn, 0) := rfl
theorem gi19_0 : gx_ins 19 0 = some (false, .ldc 89, 0) := rfl
theorem gi19_2 : gx_ins 19 2 = some (false, .istore_n 2, 0) := rfl
theorem gi19_3 : gx_ins 19 3 = some (false, .aload_n 0, 0) := rfl
theorem gi19_4 : gx_ins 19 4 = some (false, .getfield 37, 0) := rfl
theorem gi19_7 : gx_ins 19 7 = some (false, .iload_n 1, 0) := rfl
theorem gi19_8 : gx_ins 19 8 = some (false, .iaload, 0) := rfl
theorem gi19_9 : gx_ins 19 9 = some (false, .istore_n 3, 0) := rfl
theorem gi19_10 : gx_ins 19 10 = some (false, .iconst 0, 0) := rfl
theorem gi19_11 : gx_ins 19 11 = some (false, .istore 4, 0) := rfl
theorem gi19_13 : gx_ins 19 13 = some (true, .iload 4, 0) := rfl
theorem gi19_15 : gx_ins 19 15 = some (false, .bipush 22, 0) := rfl
theorem gi19_17 : gx_ins 19 17 = some (false, .if_icmp .ge 37, 54) := rfl
theorem gi19_20 : gx_ins 19 20 = some (false, .iload_n 3, 0) := rfl
theorem gi19_21 : gx_ins 19 21 = some (false, .iconst (-1), 0) := rfl
theorem gi19_22 : gx_ins 19 22 = some (false, .if_icmp .eq 32, 54) := rfl
theorem gi19_25 : gx_ins 19 25 = some (false, .iload_n 2, 0) := rfl
theorem gi19_26 : gx_ins 19 26 = some (false, .aload_n 0, 0) := rfl
theorem gi19_27 : gx_ins 19 27 = some (false, .iload_n 3, 0) := rfl
theorem gi19_28 : gx_ins 19 28 = some (false, .invokevirtual 86, 0) := rfl
theorem gi19_31 : gx_ins 19 31 = some (false, .invokestatic 63, 0) := rfl
theorem gi19_34 : gx_ins 19 34 = some (false, .istore_n 2, 0) := rfl
theorem gi19_35 : gx_ins 19 35 = some (false, .aload_n 0, 0) := rfl
theorem gi19_36 : gx_ins 19 36 = some (false, .getfield 37, 0) := rfl
theorem gi19_39 : gx_ins 19 39 = some (false, .aload_n 0, 0) := rfl
theorem gi19_40 : gx_ins 19 40 = some (false, .iload_n 3, 0) := rfl
theorem gi19_41 : gx_ins 19 41 = some (false, .iconst 1, 0) := rfl
theorem gi19_42 : gx_ins 19 42 = some (false, .ixor, 0) := rfl
theorem gi19_43 : gx_ins 19 43 = some (false, .invokevirtual 83, 0) := rfl
theorem gi19_46 : gx_ins 19 46 = some (false, .iaload, 0) := rfl
theorem gi19_47 : gx_ins 19 47 = some (false, .istore_n 3, 0) := rfl
theorem gi19_48 : gx_ins 19 48 = some (false, .iinc 4 1, 0) := rfl
theorem gi19_51 : gx_ins 19 51 = some (false, .goto (-38), 13) := rfl
theorem gi19_54 : gx_ins 19 54 = some (false, .iload_n 2, 0) := rfl
theorem gi19_55 : gx_ins 19 55 = some (false, .ireturn, 0) := rfl
theorem gi20_0 : gx_ins 20 0 = some (false, .aload_n 0, 0) := rfl
theorem gi20_1 : gx_ins 20 1 = some (false, .getfield 37, 0) := rfl
theorem gi20_4 : gx_ins 20 4 = some (false, .iload_n 1, 0) := rfl
theorem gi20_5 : gx_ins 20 5 = some (false, .iaload, 0) := rfl
theorem gi20_6 : gx_ins 20 6 = some (false, .istore_n 3, 0) := rfl
theorem gi20_7 : gx_ins 20 7 = some (false, .iconst 0, 0) := rfl
theorem gi20_8 : gx_ins 20 8 = some (false, .istore 4, 0) := rfl
theorem gi20_10 : gx_ins 20 10 = some (true, .iload 4, 0) := rfl
theorem gi20_12 : gx_ins 20 12 = some (false, .bipush 22, 0) := rfl
theorem gi20_14 : gx_ins 20 14 = some (false, .if_icmp .ge 50, 64) := rfl
theorem gi20_17 : gx_ins 20 17 = some (false, .iload_n 3, 0) := rfl
theorem gi20_18 : gx_ins 20 18 = some (false, .iconst (-1), 0) := rfl
theorem gi20_19 : gx_ins 20 19 = some (false, .if_icmp .eq 45, 64) := rfl
theorem gi20_22 : gx_ins 20 22 = some (false, .aload_n 0, 0) := rfl
theorem gi20_23 : gx_ins 20 23 = some (false, .getfield 24, 0) := rfl
theorem gi20_26 : gx_ins 20 26 = some (false, .iload_n 3, 0) := rfl
theorem gi20_27 : gx_ins 20 27 = some (false, .iconst 1, 0) := rfl
theorem gi20_28 : gx_ins 20 28 = some (false, .ishr, 0) := rfl
theorem gi20_29 : gx_ins 20 29 = some (false, .dup2, 0) := rfl
theorem gi20_30 : gx_ins 20 30 = some (false, .iaload, 0) := rfl
theorem gi20_31 : gx_ins 20 31 = some (false, .iload_n 3, 0) := rfl
theorem gi20_32 : gx_ins 20 32 = some (false, .iconst 1, 0) := rfl
theorem gi20_33 : gx_ins 20 33 = some (false, .iand, 0) := rfl
theorem gi20_34 : gx_ins 20 34 = some (false, .ifCond .ne 7, 41) := rfl
theorem gi20_37 : gx_ins 20 37 = some (false, .iload_n 2, 0) := rfl
theorem gi20_38 : gx_ins 20 38 = some (false, .goto 5, 43) := rfl
theorem gi20_41 : gx_ins 20 41 = some (false, .iload_n 2, 0) := rfl
theorem gi20_42 : gx_ins 20 42 = some (false, .ineg, 0) := rfl
theorem gi20_43 : gx_ins 20 43 = some (false, .iadd, 0) := rfl
theorem gi20_44 : gx_ins 20 44 = some (false, .iastore, 0) := rfl
theorem gi20_45 : gx_ins 20 45 = some (false, .aload_n 0, 0) := rfl
theorem gi20_46 : gx_ins 20 46 = some (false, .getfield 37, 0) := rfl
theorem gi20_49 : gx_ins 20 49 = some (false, .aload_n 0, 0) := rfl
theorem gi20_50 : gx_ins 20 50 = some (false, .iload_n 3, 0) := rfl
theorem gi20_51 : gx_ins 20 51 = some (false, .iconst 1, 0) := rfl
theorem gi20_52 : gx_ins 20 52 = some (false, .ixor, 0) := rfl
theorem gi20_53 : gx_ins 20 53 = some (false, .invokevirtual 83, 0) := rfl
theorem gi20_56 : gx_ins 20 56 = some (false, .iaload, 0) := rfl
theorem gi20_57 : gx_ins 20 57 = some (false, .istore_n 3, 0) := rfl
theorem gi20_58 : gx_ins 20 58 = some (false, .iinc 4 1, 0) := rfl
theorem gi20_61 : gx_ins 20 61 = some (false, .goto (-51), 10) := rfl
theorem gi20_64 : gx_ins 20 64 = some (false, .return_, 0) := rfl
theorem gi21_0 : gx_ins 21 0 = some (false, .iload_n 1, 0) := rfl
theorem gi21_1 : gx_ins 21 1 = some (false, .iconst 1, 0) := rfl
theorem gi21_2 : gx_ins 21 2 = some (false, .iand, 0) := rfl
theorem gi21_3 : gx_ins 21 3 = some (false, .ifCond .ne 14, 17) := rfl
theorem gi21_6 : gx_ins 21 6 = some (false, .aload_n 0, 0) := rfl
theorem gi21_7 : gx_ins 21 7 = some (false, .getfield 21, 0) := rfl
theorem gi21_10 : gx_ins 21 10 = some (false, .iload_n 1, 0) := rfl
theorem gi21_11 : gx_ins 21 11 = some (false, .iconst 1, 0) := rfl
theorem gi21_12 : gx_ins 21 12 = some (false, .ishr, 0) := rfl
theorem gi21_13 : gx_ins 21 13 = some (false, .iaload, 0) := rfl
theorem gi21_14 : gx_ins 21 14 = some (false, .goto 11, 25) := rfl
theorem gi21_17 : gx_ins 21 17 = some (false, .aload_n 0, 0) := rfl
theorem gi21_18 : gx_ins 21 18 = some (false, .getfield 18, 0) := rfl
theorem gi21_21 : gx_ins 21 21 = some (false, .iload_n 1, 0) := rfl
theorem gi21_22 : gx_ins 21 22 = some (false, .iconst 1, 0) := rfl
theorem gi21_23 : gx_ins 21 23 = some (false, .ishr, 0) := rfl
theorem gi21_24 : gx_ins 21 24 = some (false, .iaload, 0) := rfl
theorem gi21_25 : gx_ins 21 25 = some (false, .ireturn, 0) := rfl
theorem gi22_0 : gx_ins 22 0 = some (false, .iload_n 1, 0) := rfl
theorem gi22_1 : gx_ins 22 1 = some (false, .iconst 1, 0) := rfl
theorem gi22_2 : gx_ins 22 2 = some (false, .ishr, 0) := rfl
theorem gi22_3 : gx_ins 22 3 = some (false, .istore_n 2, 0) := rfl
theorem gi22_4 : gx_ins 22 4 = some (false, .aload_n 0, 0) := rfl
theorem gi22_5 : gx_ins 22 5 = some (false, .getfield 27, 0) := rfl
theorem gi22_8 : gx_ins 22 8 = some (false, .iload_n 2, 0) := rfl
theorem gi22_9 : gx_ins 22 9 = some (false, .baload, 0) := rfl
theorem gi22_10 : gx_ins 22 10 = some (false, .ifCond .eq 5, 15) := rfl
theorem gi22_13 : gx_ins 22 13 = some (false, .iconst 0, 0) := rfl
theorem gi22_14 : gx_ins 22 14 = some (false, .ireturn, 0) := rfl
theorem gi22_15 : gx_ins 22 15 = some (false, .iload_n 1, 0) := rfl
theorem gi22_16 : gx_ins 22 16 = some (false, .iconst 1, 0) := rfl
theorem gi22_17 : gx_ins 22 17 = some (false, .iand, 0) := rfl
theorem gi22_18 : gx_ins 22 18 = some (false, .ifCond .ne 19, 37) := rfl
theorem gi22_21 : gx_ins 22 21 = some (false, .aload_n 0, 0) := rfl
theorem gi22_22 : gx_ins 22 22 = some (false, .getfield 15, 0) := rfl
theorem gi22_25 : gx_ins 22 25 = some (false, .iload_n 2, 0) := rfl
theorem gi22_26 : gx_ins 22 26 = some (false, .iaload, 0) := rfl
theorem gi22_27 : gx_ins 22 27 = some (false, .aload_n 0, 0) := rfl
theorem gi22_28 : gx_ins 22 28 = some (false, .getfield 24, 0) := rfl
theorem gi22_31 : gx_ins 22 31 = some (false, .iload_n 2, 0) := rfl
theorem gi22_32 : gx_ins 22 32 = some (false, .iaload, 0) := rfl
theorem gi22_33 : gx_ins 22 33 = some (false, .isub, 0) := rfl
theorem gi22_34 : gx_ins 22 34 = some (false, .goto 16, 50) := rfl
theorem gi22_37 : gx_ins 22 37 = some (false, .aload_n 0, 0) := rfl
theorem gi22_38 : gx_ins 22 38 = some (false, .getfield 24, 0) := rfl
theorem gi22_41 : gx_ins 22 41 = some (false, .iload_n 2, 0) := rfl
theorem gi22_42 : gx_ins 22 42 = some (false, .iaload, 0) := rfl
theorem gi22_43 : gx_ins 22 43 = some (false, .aload_n 0, 0) := rfl
theorem gi22_44 : gx_ins 22 44 = some (false, .getfield 9, 0) := rfl
theorem gi22_47 : gx_ins 22 47 = some (false, .iload_n 2, 0) := rfl
theorem gi22_48 : gx_ins 22 48 = some (false, .iaload, 0) := rfl
theorem gi22_49 : gx_ins 22 49 = some (false, .isub, 0) := rfl
theorem gi22_50 : gx_ins 22 50 = some (false, .ireturn, 0) := rfl
theorem gi23_0 : gx_ins 23 0 = some (false, .iload_n 2, 0) := rfl
theorem gi23_1 : gx_ins 23 1 = some (false, .aload_n 0, 0) := rfl
theorem gi23_2 : gx_ins 23 2 = some (false, .getfield 15, 0) := rfl
theorem gi23_5 : gx_ins 23 5 = some (false, .iload_n 1, 0) := rfl
theorem gi23_6 : gx_ins 23 6 = some (false, .iaload, 0) := rfl
theorem gi23_7 : gx_ins 23 7 = some (false, .if_icmp .ge 17, 24) := rfl
theorem gi23_10 : gx_ins 23 10 = some (false, .aload_n 0, 0) := rfl
theorem gi23_11 : gx_ins 23 11 = some (false, .getfield 18, 0) := rfl
theorem gi23_14 : gx_ins 23 14 = some (false, .iload_n 1, 0) := rfl
theorem gi23_15 : gx_ins 23 15 = some (false, .bipush 10, 0) := rfl
theorem gi23_17 : gx_ins 23 17 = some (false, .imul, 0) := rfl
theorem gi23_18 : gx_ins 23 18 = some (false, .iload_n 2, 0) := rfl
theorem gi23_19 : gx_ins 23 19 = some (false, .iadd, 0) := rfl
theorem gi23_20 : gx_ins 23 20 = some (false, .iaload, 0) := rfl
theorem gi23_21 : gx_ins 23 21 = some (false, .goto 4, 25) := rfl
theorem gi23_24 : gx_ins 23 24 = some (false, .iconst (-1), 0) := rfl
theorem gi23_25 : gx_ins 23 25 = some (false, .ireturn, 0) := rfl
theorem gi24_0 : gx_ins 24 0 = some (false, .aload_n 0, 0) := rfl
theorem gi24_1 : gx_ins 24 1 = some (false, .iconst 0, 0) := rfl
theorem gi24_2 : gx_ins 24 2 = some (false, .putfield 33, 0) := rfl
theorem gi24_5 : gx_ins 24 5 = some (false, .aload_n 2, 0) := rfl
theorem gi24_6 : gx_ins 24 6 = some (false, .iconst 0, 0) := rfl
theorem gi24_7 : gx_ins 24 7 = some (false, .aload_n 0, 0) := rfl
theorem gi24_8 : gx_ins 24 8 = some (false, .getfield 21, 0) := rfl
theorem gi24_11 : gx_ins 24 11 = some (false, .iconst 0, 0) := rfl
theorem gi24_12 : gx_ins 24 12 = some (false, .bipush 40, 0) := rfl
theorem gi24_14 : gx_ins 24 14 = some (false, .invokestatic 37, 0) := rfl
theorem gi24_17 : gx_ins 24 17 = some (false, .iconst 0, 0) := rfl
theorem gi24_18 : gx_ins 24 18 = some (false, .istore_n 3, 0) := rfl
theorem gi24_19 : gx_ins 24 19 = some (true, .iload_n 3, 0) := rfl
theorem gi24_20 : gx_ins 24 20 = some (false, .aload_n 1, 0) := rfl
theorem gi24_21 : gx_ins 24 21 = some (false, .getfield 43, 0) := rfl
theorem gi24_24 : gx_ins 24 24 = some (false, .if_icmp .ge 31, 55) := rfl
theorem gi24_27 : gx_ins 24 27 = some (false, .aload_n 0, 0) := rfl
theorem gi24_28 : gx_ins 24 28 = some (false, .getfield 24, 0) := rfl
theorem gi24_31 : gx_ins 24 31 = some (false, .iload_n 3, 0) := rfl
theorem gi24_32 : gx_ins 24 32 = some (false, .aload_n 1, 0) := rfl
theorem gi24_33 : gx_ins 24 33 = some (false, .aload_n 2, 0) := rfl
theorem gi24_34 : gx_ins 24 34 = some (false, .iload_n 3, 0) := rfl
theorem gi24_35 : gx_ins 24 35 = some (false, .invokevirtual 48, 0) := rfl
theorem gi24_38 : gx_ins 24 38 = some (false, .aload_n 1, 0) := rfl
theorem gi24_39 : gx_ins 24 39 = some (false, .aload_n 2, 0) := rfl
theorem gi24_40 : gx_ins 24 40 = some (false, .iload_n 3, 0) := rfl
theorem gi24_41 : gx_ins 24 41 = some (false, .invokevirtual 52, 0) := rfl
theorem gi24_44 : gx_ins 24 44 = some (false, .isub, 0) := rfl
theorem gi24_45 : gx_ins 24 45 = some (false, .invokestatic 55, 0) := rfl
theorem gi24_48 : gx_ins 24 48 = some (false, .iastore, 0) := rfl
theorem gi24_49 : gx_ins 24 49 = some (false, .iinc 3 1, 0) := rfl
theorem gi24_52 : gx_ins 24 52 = some (false, .goto (-33), 19) := rfl
theorem gi24_55 : gx_ins 24 55 = some (false, .iconst 0, 0) := rfl
theorem gi24_56 : gx_ins 24 56 = some (false, .istore_n 3, 0) := rfl
theorem gi24_57 : gx_ins 24 57 = some (true, .iload_n 3, 0) := rfl
theorem gi24_58 : gx_ins 24 58 = some (false, .bipush 50, 0) := rfl
theorem gi24_60 : gx_ins 24 60 = some (false, .if_icmp .ge 30, 90) := rfl
theorem gi24_63 : gx_ins 24 63 = some (false, .aload_n 0, 0) := rfl
theorem gi24_64 : gx_ins 24 64 = some (false, .aload_n 1, 0) := rfl
theorem gi24_65 : gx_ins 24 65 = some (false, .invokevirtual 61, 0) := rfl
theorem gi24_68 : gx_ins 24 68 = some (false, .istore 4, 0) := rfl
theorem gi24_70 : gx_ins 24 70 = some (false, .iload 4, 0) := rfl
theorem gi24_72 : gx_ins 24 72 = some (false, .iconst (-1), 0) := rfl
theorem gi24_73 : gx_ins 24 73 = some (false, .if_icmp .ne 4, 77) := rfl
theorem gi24_76 : gx_ins 24 76 = some (false, .return_, 0) := rfl
theorem gi24_77 : gx_ins 24 77 = some (false, .aload_n 0, 0) := rfl
theorem gi24_78 : gx_ins 24 78 = some (false, .aload_n 1, 0) := rfl
theorem gi24_79 : gx_ins 24 79 = some (false, .iload 4, 0) := rfl
theorem gi24_81 : gx_ins 24 81 = some (false, .invokevirtual 65, 0) := rfl
theorem gi24_84 : gx_ins 24 84 = some (false, .iinc 3 1, 0) := rfl
theorem gi24_87 : gx_ins 24 87 = some (false, .goto (-30), 57) := rfl
theorem gi24_90 : gx_ins 24 90 = some (false, .return_, 0) := rfl
theorem gi25_0 : gx_ins 25 0 = some (false, .iconst 0, 0) := rfl
theorem gi25_1 : gx_ins 25 1 = some (false, .istore_n 2, 0) := rfl
theorem gi25_2 : gx_ins 25 2 = some (true, .iload_n 2, 0) := rfl
theorem gi25_3 : gx_ins 25 3 = some (false, .aload_n 1, 0) := rfl
theorem gi25_4 : gx_ins 25 4 = some (false, .getfield 43, 0) := rfl
theorem gi25_7 : gx_ins 25 7 = some (false, .if_icmp .ge 30, 37) := rfl
theorem gi25_10 : gx_ins 25 10 = some (false, .aload_n 1, 0) := rfl
theorem gi25_11 : gx_ins 25 11 = some (false, .getfield 69, 0) := rfl
theorem gi25_14 : gx_ins 25 14 = some (false, .iload_n 2, 0) := rfl
theorem gi25_15 : gx_ins 25 15 = some (false, .iaload, 0) := rfl
theorem gi25_16 : gx_ins 25 16 = some (false, .iconst 1, 0) := rfl
theorem gi25_17 : gx_ins 25 17 = some (false, .if_icmp .ne 14, 31) := rfl
theorem gi25_20 : gx_ins 25 20 = some (false, .aload_n 0, 0) := rfl
theorem gi25_21 : gx_ins 25 21 = some (false, .getfield 24, 0) := rfl
theorem gi25_24 : gx_ins 25 24 = some (false, .iload_n 2, 0) := rfl
theorem gi25_25 : gx_ins 25 25 = some (false, .iaload, 0) := rfl
theorem gi25_26 : gx_ins 25 26 = some (false, .ifCond .le 5, 31) := rfl
theorem gi25_29 : gx_ins 25 29 = some (false, .iload_n 2, 0) := rfl
theorem gi25_30 : gx_ins 25 30 = some (false, .ireturn, 0) := rfl
theorem gi25_31 : gx_ins 25 31 = some (false, .iinc 2 1, 0) := rfl
theorem gi25_34 : gx_ins 25 34 = some (false, .goto (-32), 2) := rfl
theorem gi25_37 : gx_ins 25 37 = some (false, .iconst (-1), 0) := rfl
theorem gi25_38 : gx_ins 25 38 = some (false, .ireturn, 0) := rfl
theorem gi26_0 : gx_ins 26 0 = some (false, .aload_n 0, 0) := rfl
theorem gi26_1 : gx_ins 26 1 = some (false, .getfield 27, 0) := rfl
theorem gi26_4 : gx_ins 26 4 = some (false, .iconst (-1), 0) := rfl
theorem gi26_5 : gx_ins 26 5 = some (false, .invokestatic 72, 0) := rfl
theorem gi26_8 : gx_ins 26 8 = some (false, .iload_n 2, 0) := rfl
theorem gi26_9 : gx_ins 26 9 = some (false, .istore_n 3, 0) := rfl
theorem gi26_10 : gx_ins 26 10 = some (false, .iconst 0, 0) := rfl
theorem gi26_11 : gx_ins 26 11 = some (false, .istore 4, 0) := rfl
theorem gi26_13 : gx_ins 26 13 = some (true, .iload 4, 0) := rfl
theorem gi26_15 : gx_ins 26 15 = some (false, .bipush 10, 0) := rfl
theorem gi26_17 : gx_ins 26 17 = some (false, .if_icmp .gt 119, 136) := rfl
theorem gi26_20 : gx_ins 26 20 = some (false, .aload_n 1, 0) := rfl
theorem gi26_21 : gx_ins 26 21 = some (false, .getfield 69, 0) := rfl
theorem gi26_24 : gx_ins 26 24 = some (false, .iload_n 3, 0) := rfl
theorem gi26_25 : gx_ins 26 25 = some (false, .iaload, 0) := rfl
theorem gi26_26 : gx_ins 26 26 = some (false, .iconst 2, 0) := rfl
theorem gi26_27 : gx_ins 26 27 = some (false, .if_icmp .ne 21, 48) := rfl
theorem gi26_30 : gx_ins 26 30 = some (false, .aload_n 0, 0) := rfl
theorem gi26_31 : gx_ins 26 31 = some (false, .getfield 24, 0) := rfl
theorem gi26_34 : gx_ins 26 34 = some (false, .iload_n 3, 0) := rfl
theorem gi26_35 : gx_ins 26 35 = some (false, .iaload, 0) := rfl
theorem gi26_36 : gx_ins 26 36 = some (false, .ifCond .le 12, 48) := rfl
theorem gi26_39 : gx_ins 26 39 = some (false, .aload_n 0, 0) := rfl
theorem gi26_40 : gx_ins 26 40 = some (false, .iload_n 2, 0) := rfl
theorem gi26_41 : gx_ins 26 41 = some (false, .iload_n 3, 0) := rfl
theorem gi26_42 : gx_ins 26 42 = some (false, .iload 4, 0) := rfl
theorem gi26_44 : gx_ins 26 44 = some (false, .invokevirtual 78, 0) := rfl
theorem gi26_47 : gx_ins 26 47 = some (false, .return_, 0) := rfl
theorem gi26_48 : gx_ins 26 48 = some (false, .aload_n 0, 0) := rfl
theorem gi26_49 : gx_ins 26 49 = some (false, .getfield 27, 0) := rfl
theorem gi26_52 : gx_ins 26 52 = some (false, .iload_n 3, 0) := rfl
theorem gi26_53 : gx_ins 26 53 = some (false, .iaload, 0) := rfl
theorem gi26_54 : gx_ins 26 54 = some (false, .iconst (-1), 0) := rfl
theorem gi26_55 : gx_ins 26 55 = some (false, .if_icmp .eq 28, 83) := rfl
theorem gi26_58 : gx_ins 26 58 = some (false, .aload_n 0, 0) := rfl
theorem gi26_59 : gx_ins 26 59 = some (false, .aload_n 0, 0) := rfl
theorem gi26_60 : gx_ins 26 60 = some (false, .getfield 27, 0) := rfl
theorem gi26_63 : gx_ins 26 63 = some (false, .iload_n 3, 0) := rfl
theorem gi26_64 : gx_ins 26 64 = some (false, .iaload, 0) := rfl
theorem gi26_65 : gx_ins 26 65 = some (false, .iload 4, 0) := rfl
theorem gi26_67 : gx_ins 26 67 = some (false, .aload_n 0, 0) := rfl
theorem gi26_68 : gx_ins 26 68 = some (false, .aload_n 0, 0) := rfl
theorem gi26_69 : gx_ins 26 69 = some (false, .getfield 27, 0) := rfl
theorem gi26_72 : gx_ins 26 72 = some (false, .iload_n 3, 0) := rfl
theorem gi26_73 : gx_ins 26 73 = some (false, .iaload, 0) := rfl
theorem gi26_74 : gx_ins 26 74 = some (false, .iload 4, 0) := rfl
theorem gi26_76 : gx_ins 26 76 = some (false, .invokevirtual 82, 0) := rfl
theorem gi26_79 : gx_ins 26 79 = some (false, .invokevirtual 86, 0) := rfl
theorem gi26_82 : gx_ins 26 82 = some (false, .return_, 0) := rfl
theorem gi26_83 : gx_ins 26 83 = some (false, .aload_n 0, 0) := rfl
theorem gi26_84 : gx_ins 26 84 = some (false, .aload_n 1, 0) := rfl
theorem gi26_85 : gx_ins 26 85 = some (false, .iload_n 3, 0) := rfl
theorem gi26_86 : gx_ins 26 86 = some (false, .invokevirtual 89, 0) := rfl
theorem gi26_89 : gx_ins 26 89 = some (false, .istore 5, 0) := rfl
theorem gi26_91 : gx_ins 26 91 = some (false, .iload 5, 0) := rfl
theorem gi26_93 : gx_ins 26 93 = some (false, .iconst (-1), 0) := rfl
theorem gi26_94 : gx_ins 26 94 = some (false, .if_icmp .eq 10, 104) := rfl
theorem gi26_97 : gx_ins 26 97 = some (false, .iload 4, 0) := rfl
theorem gi26_99 : gx_ins 26 99 = some (false, .bipush 10, 0) := rfl
theorem gi26_101 : gx_ins 26 101 = some (false, .if_icmp .ne 4, 105) := rfl
theorem gi26_104 : gx_ins 26 104 = some (false, .return_, 0) := rfl
theorem gi26_105 : gx_ins 26 105 = some (false, .aload_n 0, 0) := rfl
theorem gi26_106 : gx_ins 26 106 = some (false, .getfield 27, 0) := rfl
theorem gi26_109 : gx_ins 26 109 = some (false, .iload_n 3, 0) := rfl
theorem gi26_110 : gx_ins 26 110 = some (false, .iload 4, 0) := rfl
theorem gi26_112 : gx_ins 26 112 = some (false, .iastore, 0) := rfl
theorem gi26_113 : gx_ins 26 113 = some (false, .aload_n 0, 0) := rfl
theorem gi26_114 : gx_ins 26 114 = some (false, .getfield 30, 0) := rfl
theorem gi26_117 : gx_ins 26 117 = some (false, .iload 4, 0) := rfl
theorem gi26_119 : gx_ins 26 119 = some (false, .iload 5, 0) := rfl
theorem gi26_121 : gx_ins 26 121 = some (false, .iastore, 0) := rfl
theorem gi26_122 : gx_ins 26 122 = some (false, .aload_n 1, 0) := rfl
theorem gi26_123 : gx_ins 26 123 = some (false, .getfield 93, 0) := rfl
theorem gi26_126 : gx_ins 26 126 = some (false, .iload 5, 0) := rfl
theorem gi26_128 : gx_ins 26 128 = some (false, .iaload, 0) := rfl
theorem gi26_129 : gx_ins 26 129 = some (false, .istore_n 3, 0) := rfl
theorem gi26_130 : gx_ins 26 130 = some (false, .iinc 4 1, 0) := rfl
theorem gi26_133 : gx_ins 26 133 = some (false, .goto (-120), 13) := rfl
theorem gi26_136 : gx_ins 26 136 = some (false, .return_, 0) := rfl
theorem gi27_0 : gx_ins 27 0 = some (false, .iconst 0, 0) := rfl
theorem gi27_1 : gx_ins 27 1 = some (false, .istore_n 3, 0) := rfl
theorem gi27_2 : gx_ins 27 2 = some (true, .iload_n 3, 0) := rfl
theorem gi27_3 : gx_ins 27 3 = some (false, .aload_n 1, 0) := rfl
theorem gi27_4 : gx_ins 27 4 = some (false, .getfield 96, 0) := rfl
theorem gi27_7 : gx_ins 27 7 = some (false, .if_icmp .ge 30, 37) := rfl
theorem gi27_10 : gx_ins 27 10 = some (false, .aload_n 1, 0) := rfl
theorem gi27_11 : gx_ins 27 11 = some (false, .getfield 99, 0) := rfl
theorem gi27_14 : gx_ins 27 14 = some (false, .iload_n 3, 0) := rfl
theorem gi27_15 : gx_ins 27 15 = some (false, .iaload, 0) := rfl
theorem gi27_16 : gx_ins 27 16 = some (false, .iload_n 2, 0) := rfl
theorem gi27_17 : gx_ins 27 17 = some (false, .if_icmp .ne 14, 31) := rfl
theorem gi27_20 : gx_ins 27 20 = some (false, .aload_n 0, 0) := rfl
theorem gi27_21 : gx_ins 27 21 = some (false, .getfield 21, 0) := rfl
theorem gi27_24 : gx_ins 27 24 = some (false, .iload_n 3, 0) := rfl
theorem gi27_25 : gx_ins 27 25 = some (false, .iaload, 0) := rfl
theorem gi27_26 : gx_ins 27 26 = some (false, .ifCond .le 5, 31) := rfl
theorem gi27_29 : gx_ins 27 29 = some (false, .iload_n 3, 0) := rfl
theorem gi27_30 : gx_ins 27 30 = some (false, .ireturn, 0) := rfl
theorem gi27_31 : gx_ins 27 31 = some (false, .iinc 3 1, 0) := rfl
theorem gi27_34 : gx_ins 27 34 = some (false, .goto (-32), 2) := rfl
theorem gi27_37 : gx_ins 27 37 = some (false, .iconst (-1), 0) := rfl
theorem gi27_38 : gx_ins 27 38 = some (false, .ireturn, 0) := rfl
theorem gi28_0 : gx_ins 28 0 = some (false, .aload_n 0, 0) := rfl
theorem gi28_1 : gx_ins 28 1 = some (false, .iconst 0, 0) := rfl
theorem gi28_2 : gx_ins 28 2 = some (false, .iload_n 3, 0) := rfl
theorem gi28_3 : gx_ins 28 3 = some (false, .invokevirtual 82, 0) := rfl
theorem gi28_6 : gx_ins 28 6 = some (false, .aload_n 0, 0) := rfl
theorem gi28_7 : gx_ins 28 7 = some (false, .getfield 24, 0) := rfl
theorem gi28_10 : gx_ins 28 10 = some (false, .iload_n 1, 0) := rfl
theorem gi28_11 : gx_ins 28 11 = some (false, .iaload, 0) := rfl
theorem gi28_12 : gx_ins 28 12 = some (false, .aload_n 0, 0) := rfl
theorem gi28_13 : gx_ins 28 13 = some (false, .getfield 24, 0) := rfl
theorem gi28_16 : gx_ins 28 16 = some (false, .iload_n 2, 0) := rfl
theorem gi28_17 : gx_ins 28 17 = some (false, .iaload, 0) := rfl
theorem gi28_18 : gx_ins 28 18 = some (false, .invokestatic 102, 0) := rfl
theorem gi28_21 : gx_ins 28 21 = some (false, .invokestatic 102, 0) := rfl
theorem gi28_24 : gx_ins 28 24 = some (false, .istore 4, 0) := rfl
theorem gi28_26 : gx_ins 28 26 = some (false, .aload_n 0, 0) := rfl
theorem gi28_27 : gx_ins 28 27 = some (false, .iconst 0, 0) := rfl
theorem gi28_28 : gx_ins 28 28 = some (false, .iload_n 3, 0) := rfl
theorem gi28_29 : gx_ins 28 29 = some (false, .iload 4, 0) := rfl
theorem gi28_31 : gx_ins 28 31 = some (false, .invokevirtual 86, 0) := rfl
theorem gi28_34 : gx_ins 28 34 = some (false, .aload_n 0, 0) := rfl
theorem gi28_35 : gx_ins 28 35 = some (false, .getfield 24, 0) := rfl
theorem gi28_38 : gx_ins 28 38 = some (false, .iload_n 1, 0) := rfl
theorem gi28_39 : gx_ins 28 39 = some (false, .dup2, 0) := rfl
theorem gi28_40 : gx_ins 28 40 = some (false, .iaload, 0) := rfl
theorem gi28_41 : gx_ins 28 41 = some (false, .iload 4, 0) := rfl
theorem gi28_43 : gx_ins 28 43 = some (false, .isub, 0) := rfl
theorem gi28_44 : gx_ins 28 44 = some (false, .iastore, 0) := rfl
theorem gi28_45 : gx_ins 28 45 = some (false, .aload_n 0, 0) := rfl
theorem gi28_46 : gx_ins 28 46 = some (false, .getfield 24, 0) := rfl
theorem gi28_49 : gx_ins 28 49 = some (false, .iload_n 2, 0) := rfl
theorem gi28_50 : gx_ins 28 50 = some (false, .dup2, 0) := rfl
theorem gi28_51 : gx_ins 28 51 = some (false, .iaload, 0) := rfl
theorem gi28_52 : gx_ins 28 52 = some (false, .iload 4, 0) := rfl
theorem gi28_54 : gx_ins 28 54 = some (false, .isub, 0) := rfl
theorem gi28_55 : gx_ins 28 55 = some (false, .iastore, 0) := rfl
theorem gi28_56 : gx_ins 28 56 = some (false, .aload_n 0, 0) := rfl
theorem gi28_57 : gx_ins 28 57 = some (false, .getfield 9, 0) := rfl
theorem gi28_60 : gx_ins 28 60 = some (false, .aload_n 0, 0) := rfl
theorem gi28_61 : gx_ins 28 61 = some (false, .getfield 33, 0) := rfl
theorem gi28_64 : gx_ins 28 64 = some (false, .iload 4, 0) := rfl
theorem gi28_66 : gx_ins 28 66 = some (false, .iastore, 0) := rfl
theorem gi28_67 : gx_ins 28 67 = some (false, .aload_n 0, 0) := rfl
theorem gi28_68 : gx_ins 28 68 = some (false, .getfield 15, 0) := rfl
theorem gi28_71 : gx_ins 28 71 = some (false, .aload_n 0, 0) := rfl
theorem gi28_72 : gx_ins 28 72 = some (false, .getfield 33, 0) := rfl
theorem gi28_75 : gx_ins 28 75 = some (false, .iload_n 3, 0) := rfl
theorem gi28_76 : gx_ins 28 76 = some (false, .iastore, 0) := rfl
theorem gi28_77 : gx_ins 28 77 = some (false, .aload_n 0, 0) := rfl
theorem gi28_78 : gx_ins 28 78 = some (false, .getfield 30, 0) := rfl
theorem gi28_81 : gx_ins 28 81 = some (false, .iconst 0, 0) := rfl
theorem gi28_82 : gx_ins 28 82 = some (false, .aload_n 0, 0) := rfl
theorem gi28_83 : gx_ins 28 83 = some (false, .getfield 18, 0) := rfl
theorem gi28_86 : gx_ins 28 86 = some (false, .aload_n 0, 0) := rfl
theorem gi28_87 : gx_ins 28 87 = some (false, .getfield 33, 0) := rfl
theorem gi28_90 : gx_ins 28 90 = some (false, .bipush 10, 0) := rfl
theorem gi28_92 : gx_ins 28 92 = some (false, .imul, 0) := rfl
theorem gi28_93 : gx_ins 28 93 = some (false, .iload_n 3, 0) := rfl
theorem gi28_94 : gx_ins 28 94 = some (false, .invokestatic 37, 0) := rfl
theorem gi28_97 : gx_ins 28 97 = some (false, .aload_n 0, 0) := rfl
theorem gi28_98 : gx_ins 28 98 = some (false, .dup, 0) := rfl
theorem gi28_99 : gx_ins 28 99 = some (false, .getfield 33, 0) := rfl
theorem gi28_102 : gx_ins 28 102 = some (false, .iconst 1, 0) := rfl
theorem gi28_103 : gx_ins 28 103 = some (false, .iadd, 0) := rfl
theorem gi28_104 : gx_ins 28 104 = some (false, .putfield 33, 0) := rfl
theorem gi28_107 : gx_ins 28 107 = some (false, .return_, 0) := rfl
theorem gi29_0 : gx_ins 29 0 = some (false, .ldc 105, 0) := rfl
theorem gi29_2 : gx_ins 29 2 = some (false, .istore_n 3, 0) := rfl
theorem gi29_3 : gx_ins 29 3 = some (false, .iload_n 1, 0) := rfl
theorem gi29_4 : gx_ins 29 4 = some (false, .istore 4, 0) := rfl
theorem gi29_6 : gx_ins 29 6 = some (true, .iload 4, 0) := rfl
theorem gi29_8 : gx_ins 29 8 = some (false, .iload_n 2, 0) := rfl
theorem gi29_9 : gx_ins 29 9 = some (false, .if_icmp .ge 26, 35) := rfl
theorem gi29_12 : gx_ins 29 12 = some (false, .iload_n 3, 0) := rfl
theorem gi29_13 : gx_ins 29 13 = some (false, .aload_n 0, 0) := rfl
theorem gi29_14 : gx_ins 29 14 = some (false, .getfield 21, 0) := rfl
theorem gi29_17 : gx_ins 29 17 = some (false, .aload_n 0, 0) := rfl
theorem gi29_18 : gx_ins 29 18 = some (false, .getfield 30, 0) := rfl
theorem gi29_21 : gx_ins 29 21 = some (false, .iload 4, 0) := rfl
theorem gi29_23 : gx_ins 29 23 = some (false, .iaload, 0) := rfl
theorem gi29_24 : gx_ins 29 24 = some (false, .iaload, 0) := rfl
theorem gi29_25 : gx_ins 29 25 = some (false, .invokestatic 102, 0) := rfl
theorem gi29_28 : gx_ins 29 28 = some (false, .istore_n 3, 0) := rfl
theorem gi29_29 : gx_ins 29 29 = some (false, .iinc 4 1, 0) := rfl
theorem gi29_32 : gx_ins 29 32 = some (false, .goto (-26), 6) := rfl
theorem gi29_35 : gx_ins 29 35 = some (false, .iload_n 3, 0) := rfl
theorem gi29_36 : gx_ins 29 36 = some (false, .ireturn, 0) := rfl
theorem gi30_0 : gx_ins 30 0 = some (false, .iload_n 1, 0) := rfl
theorem gi30_1 : gx_ins 30 1 = some (false, .istore 4, 0) := rfl
theorem gi30_3 : gx_ins 30 3 = some (true, .iload 4, 0) := rfl
theorem gi30_5 : gx_ins 30 5 = some (false, .iload_n 2, 0) := rfl
theorem gi30_6 : gx_ins 30 6 = some (false, .if_icmp .ge 25, 31) := rfl
theorem gi30_9 : gx_ins 30 9 = some (false, .aload_n 0, 0) := rfl
theorem gi30_10 : gx_ins 30 10 = some (false, .getfield 21, 0) := rfl
theorem gi30_13 : gx_ins 30 13 = some (false, .aload_n 0, 0) := rfl
theorem gi30_14 : gx_ins 30 14 = some (false, .getfield 30, 0) := rfl
theorem gi30_17 : gx_ins 30 17 = some (false, .iload 4, 0) := rfl
theorem gi30_19 : gx_ins 30 19 = some (false, .iaload, 0) := rfl
theorem gi30_20 : gx_ins 30 20 = some (false, .dup2, 0) := rfl
theorem gi30_21 : gx_ins 30 21 = some (false, .iaload, 0) := rfl
theorem gi30_22 : gx_ins 30 22 = some (false, .iload_n 3, 0) := rfl
theorem gi30_23 : gx_ins 30 23 = some (false, .isub, 0) := rfl
theorem gi30_24 : gx_ins 30 24 = some (false, .iastore, 0) := rfl
theorem gi30_25 : gx_ins 30 25 = some (false, .iinc 4 1, 0) := rfl
theorem gi30_28 : gx_ins 30 28 = some (false, .goto (-25), 3) := rfl
theorem gi30_31 : gx_ins 30 31 = some (false, .return_, 0) := rfl
theorem gi31_0 : gx_ins 31 0 = some (false, .aload_n 0, 0) := rfl
theorem gi31_1 : gx_ins 31 1 = some (false, .getfield 12, 0) := rfl
theorem gi31_4 : gx_ins 31 4 = some (false, .getfield 46, 0) := rfl
theorem gi31_7 : gx_ins 31 7 = some (false, .bipush 10, 0) := rfl
theorem gi31_9 : gx_ins 31 9 = some (false, .if_icmp .lt 6, 15) := rfl
theorem gi31_12 : gx_ins 31 12 = some (false, .bipush (-4), 0) := rfl
theorem gi31_14 : gx_ins 31 14 = some (false, .ireturn, 0) := rfl
theorem gi31_15 : gx_ins 31 15 = some (false, .aload_n 0, 0) := rfl
theorem gi31_16 : gx_ins 31 16 = some (false, .invokevirtual 50, 0) := rfl
theorem gi31_19 : gx_ins 31 19 = some (false, .aload_n 0, 0) := rfl
theorem gi31_20 : gx_ins 31 20 = some (false, .getfield 12, 0) := rfl
theorem gi31_23 : gx_ins 31 23 = some (false, .invokevirtual 53, 0) := rfl
theorem gi31_26 : gx_ins 31 26 = some (false, .ireturn, 0) := rfl
theorem gi32_0 : gx_ins 32 0 = some (false, .aload_n 0, 0) := rfl
theorem gi32_1 : gx_ins 32 1 = some (false, .getfield 12, 0) := rfl
theorem gi32_4 : gx_ins 32 4 = some (false, .iload_n 1, 0) := rfl
theorem gi32_5 : gx_ins 32 5 = some (false, .invokevirtual 57, 0) := rfl
theorem gi32_8 : gx_ins 32 8 = some (false, .ifCond .ne 5, 13) := rfl
theorem gi32_11 : gx_ins 32 11 = some (false, .iconst (-1), 0) := rfl
theorem gi32_12 : gx_ins 32 12 = some (false, .ireturn, 0) := rfl
theorem gi32_13 : gx_ins 32 13 = some (false, .iload_n 2, 0) := rfl
theorem gi32_14 : gx_ins 32 14 = some (false, .ifCond .lt 8, 22) := rfl
theorem gi32_17 : gx_ins 32 17 = some (false, .iload_n 2, 0) := rfl
theorem gi32_18 : gx_ins 32 18 = some (false, .iconst 2, 0) := rfl
theorem gi32_19 : gx_ins 32 19 = some (false, .if_icmp .le 6, 25) := rfl
theorem gi32_22 : gx_ins 32 22 = some (false, .bipush (-2), 0) := rfl
theorem gi32_24 : gx_ins 32 24 = some (false, .ireturn, 0) := rfl
theorem gi32_25 : gx_ins 32 25 = some (false, .aload_n 0, 0) := rfl
theorem gi32_26 : gx_ins 32 26 = some (false, .getfield 12, 0) := rfl
theorem gi32_29 : gx_ins 32 29 = some (false, .getfield 61, 0) := rfl
theorem gi32_32 : gx_ins 32 32 = some (false, .iload_n 1, 0) := rfl
theorem gi32_33 : gx_ins 32 33 = some (false, .iaload, 0) := rfl
theorem gi32_34 : gx_ins 32 34 = some (false, .istore_n 3, 0) := rfl
theorem gi32_35 : gx_ins 32 35 = some (false, .aload_n 0, 0) := rfl
theorem gi32_36 : gx_ins 32 36 = some (false, .getfield 12, 0) := rfl
theorem gi32_39 : gx_ins 32 39 = some (false, .getfield 61, 0) := rfl
theorem gi32_42 : gx_ins 32 42 = some (false, .iload_n 1, 0) := rfl
theorem gi32_43 : gx_ins 32 43 = some (false, .iload_n 2, 0) := rfl
theorem gi32_44 : gx_ins 32 44 = some (false, .iastore, 0) := rfl
theorem gi32_45 : gx_ins 32 45 = some (false, .aload_n 0, 0) := rfl
theorem gi32_46 : gx_ins 32 46 = some (false, .invokevirtual 50, 0) := rfl
theorem gi32_49 : gx_ins 32 49 = some (false, .iload_n 3, 0) := rfl
theorem gi32_50 : gx_ins 32 50 = some (false, .ireturn, 0) := rfl
theorem gi33_0 : gx_ins 33 0 = some (false, .aload_n 0, 0) := rfl
theorem gi33_1 : gx_ins 33 1 = some (false, .getfield 12, 0) := rfl
theorem gi33_4 : gx_ins 33 4 = some (false, .iload_n 1, 0) := rfl
theorem gi33_5 : gx_ins 33 5 = some (false, .invokevirtual 57, 0) := rfl
theorem gi33_8 : gx_ins 33 8 = some (false, .ifCond .ne 5, 13) := rfl
theorem gi33_11 : gx_ins 33 11 = some (false, .iconst (-1), 0) := rfl
theorem gi33_12 : gx_ins 33 12 = some (false, .ireturn, 0) := rfl
theorem gi33_13 : gx_ins 33 13 = some (false, .iload_n 2, 0) := rfl
theorem gi33_14 : gx_ins 33 14 = some (false, .iconst (-1), 0) := rfl
theorem gi33_15 : gx_ins 33 15 = some (false, .if_icmp .lt 9, 24) := rfl
theorem gi33_18 : gx_ins 33 18 = some (false, .iload_n 2, 0) := rfl
theorem gi33_19 : gx_ins 33 19 = some (false, .ldc 64, 0) := rfl
theorem gi33_21 : gx_ins 33 21 = some (false, .if_icmp .le 6, 27) := rfl
theorem gi33_24 : gx_ins 33 24 = some (false, .bipush (-2), 0) := rfl
theorem gi33_26 : gx_ins 33 26 = some (false, .ireturn, 0) := rfl
theorem gi33_27 : gx_ins 33 27 = some (false, .aload_n 0, 0) := rfl
theorem gi33_28 : gx_ins 33 28 = some (false, .getfield 12, 0) := rfl
theorem gi33_31 : gx_ins 33 31 = some (false, .getfield 65, 0) := rfl
theorem gi33_34 : gx_ins 33 34 = some (false, .iload_n 1, 0) := rfl
theorem gi33_35 : gx_ins 33 35 = some (false, .iload_n 2, 0) := rfl
theorem gi33_36 : gx_ins 33 36 = some (false, .iastore, 0) := rfl
theorem gi33_37 : gx_ins 33 37 = some (false, .aload_n 0, 0) := rfl
theorem gi33_38 : gx_ins 33 38 = some (false, .invokevirtual 50, 0) := rfl
theorem gi33_41 : gx_ins 33 41 = some (false, .iconst 1, 0) := rfl
theorem gi33_42 : gx_ins 33 42 = some (false, .ireturn, 0) := rfl
theorem gi34_0 : gx_ins 34 0 = some (false, .aload_n 0, 0) := rfl
theorem gi34_1 : gx_ins 34 1 = some (false, .getfield 12, 0) := rfl
theorem gi34_4 : gx_ins 34 4 = some (false, .iload_n 1, 0) := rfl
theorem gi34_5 : gx_ins 34 5 = some (false, .invokevirtual 57, 0) := rfl
theorem gi34_8 : gx_ins 34 8 = some (false, .ifCond .eq 19, 27) := rfl
theorem gi34_11 : gx_ins 34 11 = some (false, .aload_n 0, 0) := rfl
theorem gi34_12 : gx_ins 34 12 = some (false, .getfield 12, 0) := rfl
theorem gi34_15 : gx_ins 34 15 = some (false, .iload_n 2, 0) := rfl
theorem gi34_16 : gx_ins 34 16 = some (false, .invokevirtual 57, 0) := rfl
theorem gi34_19 : gx_ins 34 19 = some (false, .ifCond .eq 8, 27) := rfl
theorem gi34_22 : gx_ins 34 22 = some (false, .iload_n 1, 0) := rfl
theorem gi34_23 : gx_ins 34 23 = some (false, .iload_n 2, 0) := rfl
theorem gi34_24 : gx_ins 34 24 = some (false, .if_icmp .ne 5, 29) := rfl
theorem gi34_27 : gx_ins 34 27 = some (false, .iconst (-1), 0) := rfl
theorem gi34_28 : gx_ins 34 28 = some (false, .ireturn, 0) := rfl
theorem gi34_29 : gx_ins 34 29 = some (false, .iload_n 3, 0) := rfl
theorem gi34_30 : gx_ins 34 30 = some (false, .iload 4, 0) := rfl
theorem gi34_32 : gx_ins 34 32 = some (false, .invokestatic 68, 0) := rfl
theorem gi34_35 : gx_ins 34 35 = some (false, .ifCond .ne 6, 41) := rfl
theorem gi34_38 : gx_ins 34 38 = some (false, .bipush (-2), 0) := rfl
theorem gi34_40 : gx_ins 34 40 = some (false, .ireturn, 0) := rfl
theorem gi34_41 : gx_ins 34 41 = some (false, .aload_n 0, 0) := rfl
theorem gi34_42 : gx_ins 34 42 = some (false, .getfield 12, 0) := rfl
theorem gi34_45 : gx_ins 34 45 = some (false, .getfield 72, 0) := rfl
theorem gi34_48 : gx_ins 34 48 = some (false, .bipush 40, 0) := rfl
theorem gi34_50 : gx_ins 34 50 = some (false, .if_icmp .lt 6, 56) := rfl
theorem gi34_53 : gx_ins 34 53 = some (false, .bipush (-4), 0) := rfl
theorem gi34_55 : gx_ins 34 55 = some (false, .ireturn, 0) := rfl
theorem gi34_56 : gx_ins 34 56 = some (false, .aload_n 0, 0) := rfl
theorem gi34_57 : gx_ins 34 57 = some (false, .invokevirtual 50, 0) := rfl
theorem gi34_60 : gx_ins 34 60 = some (false, .aload_n 0, 0) := rfl
theorem gi34_61 : gx_ins 34 61 = some (false, .getfield 12, 0) := rfl
theorem gi34_64 : gx_ins 34 64 = some (false, .iload_n 1, 0) := rfl
theorem gi34_65 : gx_ins 34 65 = some (false, .iload_n 2, 0) := rfl
theorem gi34_66 : gx_ins 34 66 = some (false, .iload_n 3, 0) := rfl
theorem gi34_67 : gx_ins 34 67 = some (false, .iload 4, 0) := rfl
theorem gi34_69 : gx_ins 34 69 = some (false, .invokevirtual 75, 0) := rfl
theorem gi34_72 : gx_ins 34 72 = some (false, .ireturn, 0) := rfl
theorem gi35_0 : gx_ins 35 0 = some (false, .aload_n 0, 0) := rfl
theorem gi35_1 : gx_ins 35 1 = some (false, .getfield 12, 0) := rfl
theorem gi35_4 : gx_ins 35 4 = some (false, .iload_n 1, 0) := rfl
theorem gi35_5 : gx_ins 35 5 = some (false, .invokevirtual 79, 0) := rfl
theorem gi35_8 : gx_ins 35 8 = some (false, .ifCond .ne 5, 13) := rfl
theorem gi35_11 : gx_ins 35 11 = some (false, .iconst (-1), 0) := rfl
theorem gi35_12 : gx_ins 35 12 = some (false, .ireturn, 0) := rfl
theorem gi35_13 : gx_ins 35 13 = some (false, .iload_n 2, 0) := rfl
theorem gi35_14 : gx_ins 35 14 = some (false, .iload_n 3, 0) := rfl
theorem gi35_15 : gx_ins 35 15 = some (false, .invokestatic 68, 0) := rfl
theorem gi35_18 : gx_ins 35 18 = some (false, .ifCond .ne 6, 24) := rfl
theorem gi35_21 : gx_ins 35 21 = some (false, .bipush (-2), 0) := rfl
theorem gi35_23 : gx_ins 35 23 = some (false, .ireturn, 0) := rfl
theorem gi35_24 : gx_ins 35 24 = some (false, .aload_n 0, 0) := rfl
theorem gi35_25 : gx_ins 35 25 = some (false, .getfield 12, 0) := rfl
theorem gi35_28 : gx_ins 35 28 = some (false, .getfield 82, 0) := rfl
theorem gi35_31 : gx_ins 35 31 = some (false, .iload_n 1, 0) := rfl
theorem gi35_32 : gx_ins 35 32 = some (false, .iload_n 2, 0) := rfl
theorem gi35_33 : gx_ins 35 33 = some (false, .iastore, 0) := rfl
theorem gi35_34 : gx_ins 35 34 = some (false, .aload_n 0, 0) := rfl
theorem gi35_35 : gx_ins 35 35 = some (false, .getfield 12, 0) := rfl
theorem gi35_38 : gx_ins 35 38 = some (false, .getfield 85, 0) := rfl
theorem gi35_41 : gx_ins 35 41 = some (false, .iload_n 1, 0) := rfl
theorem gi35_42 : gx_ins 35 42 = some (false, .iload_n 3, 0) := rfl
theorem gi35_43 : gx_ins 35 43 = some (false, .iastore, 0) := rfl
theorem gi35_44 : gx_ins 35 44 = some (false, .aload_n 0, 0) := rfl
theorem gi35_45 : gx_ins 35 45 = some (false, .invokevirtual 50, 0) := rfl
theorem gi35_48 : gx_ins 35 48 = some (false, .iconst 1, 0) := rfl
theorem gi35_49 : gx_ins 35 49 = some (false, .ireturn, 0) := rfl
theorem gi36_0 : gx_ins 36 0 = some (false, .aload_n 0, 0) := rfl
theorem gi36_1 : gx_ins 36 1 = some (false, .getfield 12, 0) := rfl
theorem gi36_4 : gx_ins 36 4 = some (false, .iload_n 1, 0) := rfl
theorem gi36_5 : gx_ins 36 5 = some (false, .invokevirtual 79, 0) := rfl
theorem gi36_8 : gx_ins 36 8 = some (false, .ifCond .ne 5, 13) := rfl
theorem gi36_11 : gx_ins 36 11 = some (false, .iconst (-1), 0) := rfl
theorem gi36_12 : gx_ins 36 12 = some (false, .ireturn, 0) := rfl
theorem gi36_13 : gx_ins 36 13 = some (false, .aload_n 0, 0) := rfl
theorem gi36_14 : gx_ins 36 14 = some (false, .invokevirtual 50, 0) := rfl
theorem gi36_17 : gx_ins 36 17 = some (false, .aload_n 0, 0) := rfl
theorem gi36_18 : gx_ins 36 18 = some (false, .getfield 12, 0) := rfl
theorem gi36_21 : gx_ins 36 21 = some (false, .iload_n 1, 0) := rfl
theorem gi36_22 : gx_ins 36 22 = some (false, .invokevirtual 88, 0) := rfl
theorem gi36_25 : gx_ins 36 25 = some (false, .ireturn, 0) := rfl
theorem gi37_0 : gx_ins 37 0 = some (false, .aload_n 0, 0) := rfl
theorem gi37_1 : gx_ins 37 1 = some (false, .invokevirtual 50, 0) := rfl
theorem gi37_4 : gx_ins 37 4 = some (false, .aload_n 0, 0) := rfl
theorem gi37_5 : gx_ins 37 5 = some (false, .getfield 12, 0) := rfl
theorem gi37_8 : gx_ins 37 8 = some (false, .invokevirtual 92, 0) := rfl
theorem gi37_11 : gx_ins 37 11 = some (false, .ireturn, 0) := rfl
theorem gi38_0 : gx_ins 38 0 = some (false, .aload_n 0, 0) := rfl
theorem gi38_1 : gx_ins 38 1 = some (false, .invokevirtual 95, 0) := rfl
theorem gi38_4 : gx_ins 38 4 = some (false, .ifCond .eq 7, 11) := rfl
theorem gi38_7 : gx_ins 38 7 = some (false, .iconst 1, 0) := rfl
theorem gi38_8 : gx_ins 38 8 = some (false, .goto 4, 12) := rfl
theorem gi38_11 : gx_ins 38 11 = some (false, .iconst 0, 0) := rfl
theorem gi38_12 : gx_ins 38 12 = some (false, .ireturn, 0) := rfl
theorem gi39_0 : gx_ins 39 0 = some (false, .iload_n 1, 0) := rfl
theorem gi39_1 : gx_ins 39 1 = some (false, .invokestatic 99, 0) := rfl
theorem gi39_4 : gx_ins 39 4 = some (false, .ifCond .ne 5, 9) := rfl
theorem gi39_7 : gx_ins 39 7 = some (false, .iconst (-1), 0) := rfl
theorem gi39_8 : gx_ins 39 8 = some (false, .ireturn, 0) := rfl
theorem gi39_9 : gx_ins 39 9 = some (false, .aload_n 0, 0) := rfl
theorem gi39_10 : gx_ins 39 10 = some (false, .invokevirtual 95, 0) := rfl
theorem gi39_13 : gx_ins 39 13 = some (false, .ifCond .ne 6, 19) := rfl
theorem gi39_16 : gx_ins 39 16 = some (false, .bipush (-3), 0) := rfl
theorem gi39_18 : gx_ins 39 18 = some (false, .ireturn, 0) := rfl
theorem gi39_19 : gx_ins 39 19 = some (false, .aload_n 0, 0) := rfl
theorem gi39_20 : gx_ins 39 20 = some (false, .iload_n 1, 0) := rfl
theorem gi39_21 : gx_ins 39 21 = some (false, .invokevirtual 102, 0) := rfl
theorem gi39_24 : gx_ins 39 24 = some (false, .bipush 60, 0) := rfl
theorem gi39_26 : gx_ins 39 26 = some (false, .iaload, 0) := rfl
theorem gi39_27 : gx_ins 39 27 = some (false, .ireturn, 0) := rfl
theorem gi40_0 : gx_ins 40 0 = some (false, .iload_n 1, 0) := rfl
theorem gi40_1 : gx_ins 40 1 = some (false, .invokestatic 99, 0) := rfl
theorem gi40_4 : gx_ins 40 4 = some (false, .ifCond .eq 14, 18) := rfl
theorem gi40_7 : gx_ins 40 7 = some (false, .aload_n 0, 0) := rfl
theorem gi40_8 : gx_ins 40 8 = some (false, .getfield 12, 0) := rfl
theorem gi40_11 : gx_ins 40 11 = some (false, .iload_n 2, 0) := rfl
theorem gi40_12 : gx_ins 40 12 = some (false, .invokevirtual 79, 0) := rfl
theorem gi40_15 : gx_ins 40 15 = some (false, .ifCond .ne 5, 20) := rfl
theorem gi40_18 : gx_ins 40 18 = some (false, .iconst (-1), 0) := rfl
theorem gi40_19 : gx_ins 40 19 = some (false, .ireturn, 0) := rfl
theorem gi40_20 : gx_ins 40 20 = some (false, .aload_n 0, 0) := rfl
theorem gi40_21 : gx_ins 40 21 = some (false, .invokevirtual 95, 0) := rfl
theorem gi40_24 : gx_ins 40 24 = some (false, .ifCond .ne 6, 30) := rfl
theorem gi40_27 : gx_ins 40 27 = some (false, .bipush (-3), 0) := rfl
theorem gi40_29 : gx_ins 40 29 = some (false, .ireturn, 0) := rfl
theorem gi40_30 : gx_ins 40 30 = some (false, .aload_n 0, 0) := rfl
theorem gi40_31 : gx_ins 40 31 = some (false, .iload_n 1, 0) := rfl
theorem gi40_32 : gx_ins 40 32 = some (false, .invokevirtual 102, 0) := rfl
theorem gi40_35 : gx_ins 40 35 = some (false, .iload_n 2, 0) := rfl
theorem gi40_36 : gx_ins 40 36 = some (false, .iaload, 0) := rfl
theorem gi40_37 : gx_ins 40 37 = some (false, .ireturn, 0) := rfl
theorem gi41_0 : gx_ins 41 0 = some (false, .iload_n 1, 0) := rfl
theorem gi41_1 : gx_ins 41 1 = some (false, .invokestatic 99, 0) := rfl
theorem gi41_4 : gx_ins 41 4 = some (false, .ifCond .eq 14, 18) := rfl
theorem gi41_7 : gx_ins 41 7 = some (false, .aload_n 0, 0) := rfl
theorem gi41_8 : gx_ins 41 8 = some (false, .getfield 12, 0) := rfl
theorem gi41_11 : gx_ins 41 11 = some (false, .iload_n 2, 0) := rfl
theorem gi41_12 : gx_ins 41 12 = some (false, .invokevirtual 57, 0) := rfl
theorem gi41_15 : gx_ins 41 15 = some (false, .ifCond .ne 5, 20) := rfl
theorem gi41_18 : gx_ins 41 18 = some (false, .iconst (-1), 0) := rfl
theorem gi41_19 : gx_ins 41 19 = some (false, .ireturn, 0) := rfl
theorem gi41_20 : gx_ins 41 20 = some (false, .aload_n 0, 0) := rfl
theorem gi41_21 : gx_ins 41 21 = some (false, .invokevirtual 95, 0) := rfl
theorem gi41_24 : gx_ins 41 24 = some (false, .ifCond .ne 6, 30) := rfl
theorem gi41_27 : gx_ins 41 27 = some (false, .bipush (-3), 0) := rfl
theorem gi41_29 : gx_ins 41 29 = some (false, .ireturn, 0) := rfl
theorem gi41_30 : gx_ins 41 30 = some (false, .aload_n 0, 0) := rfl
theorem gi41_31 : gx_ins 41 31 = some (false, .iload_n 1, 0) := rfl
theorem gi41_32 : gx_ins 41 32 = some (false, .invokevirtual 102, 0) := rfl
theorem gi41_35 : gx_ins 41 35 = some (false, .astore_n 3, 0) := rfl
theorem gi41_36 : gx_ins 41 36 = some (false, .aload_n 0, 0) := rfl
theorem gi41_37 : gx_ins 41 37 = some (false, .getfield 12, 0) := rfl
theorem gi41_40 : gx_ins 41 40 = some (false, .aload_n 3, 0) := rfl
theorem gi41_41 : gx_ins 41 41 = some (false, .iload_n 2, 0) := rfl
theorem gi41_42 : gx_ins 41 42 = some (false, .invokevirtual 106, 0) := rfl
theorem gi41_45 : gx_ins 41 45 = some (false, .aload_n 0, 0) := rfl
theorem gi41_46 : gx_ins 41 46 = some (false, .getfield 12, 0) := rfl
theorem gi41_49 : gx_ins 41 49 = some (false, .aload_n 3, 0) := rfl
theorem gi41_50 : gx_ins 41 50 = some (false, .iload_n 2, 0) := rfl
theorem gi41_51 : gx_ins 41 51 = some (false, .invokevirtual 110, 0) := rfl
theorem gi41_54 : gx_ins 41 54 = some (false, .invokestatic 113, 0) := rfl
theorem gi41_57 : gx_ins 41 57 = some (false, .ireturn, 0) := rfl
theorem gi42_0 : gx_ins 42 0 = some (false, .aload_n 0, 0) := rfl
theorem gi42_1 : gx_ins 42 1 = some (false, .iload_n 1, 0) := rfl
theorem gi42_2 : gx_ins 42 2 = some (false, .iconst 2, 0) := rfl
theorem gi42_3 : gx_ins 42 3 = some (false, .invokevirtual 119, 0) := rfl
theorem gi42_6 : gx_ins 42 6 = some (false, .ireturn, 0) := rfl
theorem gi43_0 : gx_ins 43 0 = some (false, .aload_n 0, 0) := rfl
theorem gi43_1 : gx_ins 43 1 = some (false, .iload_n 1, 0) := rfl
theorem gi43_2 : gx_ins 43 2 = some (false, .iconst 1, 0) := rfl
theorem gi43_3 : gx_ins 43 3 = some (false, .invokevirtual 119, 0) := rfl
theorem gi43_6 : gx_ins 43 6 = some (false, .ireturn, 0) := rfl
theorem gi44_0 : gx_ins 44 0 = some (false, .aload_n 0, 0) := rfl
theorem gi44_1 : gx_ins 44 1 = some (false, .getfield 12, 0) := rfl
theorem gi44_4 : gx_ins 44 4 = some (false, .iload_n 1, 0) := rfl
theorem gi44_5 : gx_ins 44 5 = some (false, .invokevirtual 79, 0) := rfl
theorem gi44_8 : gx_ins 44 8 = some (false, .ifCond .ne 5, 13) := rfl
theorem gi44_11 : gx_ins 44 11 = some (false, .iconst (-1), 0) := rfl
theorem gi44_12 : gx_ins 44 12 = some (false, .ireturn, 0) := rfl
theorem gi44_13 : gx_ins 44 13 = some (false, .aload_n 0, 0) := rfl
theorem gi44_14 : gx_ins 44 14 = some (false, .invokevirtual 95, 0) := rfl
theorem gi44_17 : gx_ins 44 17 = some (false, .ifCond .ne 6, 23) := rfl
theorem gi44_20 : gx_ins 44 20 = some (false, .bipush (-3), 0) := rfl
theorem gi44_22 : gx_ins 44 22 = some (false, .ireturn, 0) := rfl
theorem gi44_23 : gx_ins 44 23 = some (false, .aload_n 0, 0) := rfl
theorem gi44_24 : gx_ins 44 24 = some (false, .invokevirtual 122, 0) := rfl
theorem gi44_27 : gx_ins 44 27 = some (false, .aload_n 0, 0) := rfl
theorem gi44_28 : gx_ins 44 28 = some (false, .getfield 19, 0) := rfl
theorem gi44_31 : gx_ins 44 31 = some (false, .getfield 125, 0) := rfl
theorem gi44_34 : gx_ins 44 34 = some (false, .iload_n 1, 0) := rfl
theorem gi44_35 : gx_ins 44 35 = some (false, .dup2, 0) := rfl
theorem gi44_36 : gx_ins 44 36 = some (false, .iaload, 0) := rfl
theorem gi44_37 : gx_ins 44 37 = some (false, .iconst 1, 0) := rfl
theorem gi44_38 : gx_ins 44 38 = some (false, .iadd, 0) := rfl
theorem gi44_39 : gx_ins 44 39 = some (false, .iastore, 0) := rfl
theorem gi44_40 : gx_ins 44 40 = some (false, .aload_n 0, 0) := rfl
theorem gi44_41 : gx_ins 44 41 = some (false, .getfield 19, 0) := rfl
theorem gi44_44 : gx_ins 44 44 = some (false, .bipush 60, 0) := rfl
theorem gi44_46 : gx_ins 44 46 = some (false, .iconst 1, 0) := rfl
theorem gi44_47 : gx_ins 44 47 = some (false, .invokevirtual 128, 0) := rfl
theorem gi44_50 : gx_ins 44 50 = some (false, .ireturn, 0) := rfl
theorem gi45_0 : gx_ins 45 0 = some (false, .aload_n 0, 0) := rfl
theorem gi45_1 : gx_ins 45 1 = some (false, .invokevirtual 95, 0) := rfl
theorem gi45_4 : gx_ins 45 4 = some (false, .ifCond .eq 6, 10) := rfl
theorem gi45_7 : gx_ins 45 7 = some (false, .bipush (-2), 0) := rfl
theorem gi45_9 : gx_ins 45 9 = some (false, .ireturn, 0) := rfl
theorem gi45_10 : gx_ins 45 10 = some (false, .aload_n 0, 0) := rfl
theorem gi45_11 : gx_ins 45 11 = some (false, .getfield 131, 0) := rfl
theorem gi45_14 : gx_ins 45 14 = some (false, .ifCond .ne 7, 21) := rfl
theorem gi45_17 : gx_ins 45 17 = some (false, .aload_n 0, 0) := rfl
theorem gi45_18 : gx_ins 45 18 = some (false, .invokevirtual 135, 0) := rfl
theorem gi45_21 : gx_ins 45 21 = some (false, .iload_n 1, 0) := rfl
theorem gi45_22 : gx_ins 45 22 = some (false, .ifCond .lt 11, 33) := rfl
theorem gi45_25 : gx_ins 45 25 = some (false, .iload_n 1, 0) := rfl
theorem gi45_26 : gx_ins 45 26 = some (false, .aload_n 0, 0) := rfl
theorem gi45_27 : gx_ins 45 27 = some (false, .getfield 138, 0) := rfl
theorem gi45_30 : gx_ins 45 30 = some (false, .if_icmp .lt 5, 35) := rfl
theorem gi45_33 : gx_ins 45 33 = some (false, .iconst (-1), 0) := rfl
theorem gi45_34 : gx_ins 45 34 = some (false, .ireturn, 0) := rfl
theorem gi45_35 : gx_ins 45 35 = some (false, .aload_n 0, 0) := rfl
theorem gi45_36 : gx_ins 45 36 = some (false, .getfield 43, 0) := rfl
theorem gi45_39 : gx_ins 45 39 = some (false, .aload_n 0, 0) := rfl
theorem gi45_40 : gx_ins 45 40 = some (false, .getfield 138, 0) := rfl
theorem gi45_43 : gx_ins 45 43 = some (false, .iconst 1, 0) := rfl
theorem gi45_44 : gx_ins 45 44 = some (false, .isub, 0) := rfl
theorem gi45_45 : gx_ins 45 45 = some (false, .iload_n 1, 0) := rfl
theorem gi45_46 : gx_ins 45 46 = some (false, .isub, 0) := rfl
theorem gi45_47 : gx_ins 45 47 = some (false, .iaload, 0) := rfl
theorem gi45_48 : gx_ins 45 48 = some (false, .ireturn, 0) := rfl
theorem gi46_0 : gx_ins 46 0 = some (false, .aload_n 0, 0) := rfl
theorem gi46_1 : gx_ins 46 1 = some (false, .invokevirtual 95, 0) := rfl
theorem gi46_4 : gx_ins 46 4 = some (false, .ifCond .ne 6, 10) := rfl
theorem gi46_7 : gx_ins 46 7 = some (false, .bipush (-3), 0) := rfl
theorem gi46_9 : gx_ins 46 9 = some (false, .ireturn, 0) := rfl
theorem gi46_10 : gx_ins 46 10 = some (false, .aload_n 0, 0) := rfl
theorem gi46_11 : gx_ins 46 11 = some (false, .invokevirtual 141, 0) := rfl
theorem gi46_14 : gx_ins 46 14 = some (false, .aload_n 0, 0) := rfl
theorem gi46_15 : gx_ins 46 15 = some (false, .getfield 26, 0) := rfl
theorem gi46_18 : gx_ins 46 18 = some (false, .getfield 144, 0) := rfl
theorem gi46_21 : gx_ins 46 21 = some (false, .ireturn, 0) := rfl
theorem gi47_0 : gx_ins 47 0 = some (false, .aload_n 0, 0) := rfl
theorem gi47_1 : gx_ins 47 1 = some (false, .invokevirtual 95, 0) := rfl
theorem gi47_4 : gx_ins 47 4 = some (false, .ifCond .ne 6, 10) := rfl
theorem gi47_7 : gx_ins 47 7 = some (false, .bipush (-3), 0) := rfl
theorem gi47_9 : gx_ins 47 9 = some (false, .ireturn, 0) := rfl
theorem gi47_10 : gx_ins 47 10 = some (false, .aload_n 0, 0) := rfl
theorem gi47_11 : gx_ins 47 11 = some (false, .invokevirtual 141, 0) := rfl
theorem gi47_14 : gx_ins 47 14 = some (false, .iload_n 1, 0) := rfl
theorem gi47_15 : gx_ins 47 15 = some (false, .ifCond .lt 14, 29) := rfl
theorem gi47_18 : gx_ins 47 18 = some (false, .iload_n 1, 0) := rfl
theorem gi47_19 : gx_ins 47 19 = some (false, .aload_n 0, 0) := rfl
theorem gi47_20 : gx_ins 47 20 = some (false, .getfield 26, 0) := rfl
theorem gi47_23 : gx_ins 47 23 = some (false, .getfield 144, 0) := rfl
theorem gi47_26 : gx_ins 47 26 = some (false, .if_icmp .lt 5, 31) := rfl
theorem gi47_29 : gx_ins 47 29 = some (false, .iconst (-1), 0) := rfl
theorem gi47_30 : gx_ins 47 30 = some (false, .ireturn, 0) := rfl
theorem gi47_31 : gx_ins 47 31 = some (false, .iload_n 2, 0) := rfl
theorem gi47_32 : gx_ins 47 32 = some (false, .ifCond .ge 6, 38) := rfl
theorem gi47_35 : gx_ins 47 35 = some (false, .bipush (-2), 0) := rfl
theorem gi47_37 : gx_ins 47 37 = some (false, .ireturn, 0) := rfl
theorem gi47_38 : gx_ins 47 38 = some (false, .iload_n 2, 0) := rfl
theorem gi47_39 : gx_ins 47 39 = some (false, .ifCond .ne 13, 52) := rfl
theorem gi47_42 : gx_ins 47 42 = some (false, .aload_n 0, 0) := rfl
theorem gi47_43 : gx_ins 47 43 = some (false, .getfield 26, 0) := rfl
theorem gi47_46 : gx_ins 47 46 = some (false, .getfield 147, 0) := rfl
theorem gi47_49 : gx_ins 47 49 = some (false, .iload_n 1, 0) := rfl
theorem gi47_50 : gx_ins 47 50 = some (false, .iaload, 0) := rfl
theorem gi47_51 : gx_ins 47 51 = some (false, .ireturn, 0) := rfl
theorem gi47_52 : gx_ins 47 52 = some (false, .iload_n 2, 0) := rfl
theorem gi47_53 : gx_ins 47 53 = some (false, .iconst 1, 0) := rfl
theorem gi47_54 : gx_ins 47 54 = some (false, .if_icmp .ne 13, 67) := rfl
theorem gi47_57 : gx_ins 47 57 = some (false, .aload_n 0, 0) := rfl
theorem gi47_58 : gx_ins 47 58 = some (false, .getfield 26, 0) := rfl
theorem gi47_61 : gx_ins 47 61 = some (false, .getfield 150, 0) := rfl
theorem gi47_64 : gx_ins 47 64 = some (false, .iload_n 1, 0) := rfl
theorem gi47_65 : gx_ins 47 65 = some (false, .iaload, 0) := rfl
theorem gi47_66 : gx_ins 47 66 = some (false, .ireturn, 0) := rfl
theorem gi47_67 : gx_ins 47 67 = some (false, .aload_n 0, 0) := rfl
theorem gi47_68 : gx_ins 47 68 = some (false, .getfield 26, 0) := rfl
theorem gi47_71 : gx_ins 47 71 = some (false, .iload_n 1, 0) := rfl
theorem gi47_72 : gx_ins 47 72 = some (false, .iload_n 2, 0) := rfl
theorem gi47_73 : gx_ins 47 73 = some (false, .iconst 2, 0) := rfl
theorem gi47_74 : gx_ins 47 74 = some (false, .isub, 0) := rfl
theorem gi47_75 : gx_ins 47 75 = some (false, .invokevirtual 153, 0) := rfl
theorem gi47_78 : gx_ins 47 78 = some (false, .ireturn, 0) := rfl
theorem gi48_0 : gx_ins 48 0 = some (false, .iload_n 0, 0) := rfl
theorem gi48_1 : gx_ins 48 1 = some (false, .ifCond .eq 8, 9) := rfl
theorem gi48_4 : gx_ins 48 4 = some (false, .iload_n 0, 0) := rfl
theorem gi48_5 : gx_ins 48 5 = some (false, .iconst 1, 0) := rfl
theorem gi48_6 : gx_ins 48 6 = some (false, .if_icmp .ne 7, 13) := rfl
theorem gi48_9 : gx_ins 48 9 = some (false, .iconst 1, 0) := rfl
theorem gi48_10 : gx_ins 48 10 = some (false, .goto 4, 14) := rfl
theorem gi48_13 : gx_ins 48 13 = some (false, .iconst 0, 0) := rfl
theorem gi48_14 : gx_ins 48 14 = some (false, .ireturn, 0) := rfl
theorem gi49_0 : gx_ins 49 0 = some (false, .iload_n 0, 0) := rfl
theorem gi49_1 : gx_ins 49 1 = some (false, .ifCond .lt 19, 20) := rfl
theorem gi49_4 : gx_ins 49 4 = some (false, .iload_n 0, 0) := rfl
theorem gi49_5 : gx_ins 49 5 = some (false, .iload_n 1, 0) := rfl
theorem gi49_6 : gx_ins 49 6 = some (false, .if_icmp .gt 14, 20) := rfl
theorem gi49_9 : gx_ins 49 9 = some (false, .iload_n 1, 0) := rfl
theorem gi49_10 : gx_ins 49 10 = some (false, .sipush 1000, 0) := rfl
theorem gi49_13 : gx_ins 49 13 = some (false, .if_icmp .gt 7, 20) := rfl
theorem gi49_16 : gx_ins 49 16 = some (false, .iconst 1, 0) := rfl
theorem gi49_17 : gx_ins 49 17 = some (false, .goto 4, 21) := rfl
theorem gi49_20 : gx_ins 49 20 = some (false, .iconst 0, 0) := rfl
theorem gi49_21 : gx_ins 49 21 = some (false, .ireturn, 0) := rfl
theorem gi50_0 : gx_ins 50 0 = some (false, .iconst 2, 0) := rfl
theorem gi50_1 : gx_ins 50 1 = some (false, .iload_n 0, 0) := rfl
theorem gi50_2 : gx_ins 50 2 = some (false, .imul, 0) := rfl
theorem gi50_3 : gx_ins 50 3 = some (false, .ireturn, 0) := rfl
theorem gi51_0 : gx_ins 51 0 = some (false, .iconst 2, 0) := rfl
theorem gi51_1 : gx_ins 51 1 = some (false, .iload_n 0, 0) := rfl
theorem gi51_2 : gx_ins 51 2 = some (false, .imul, 0) := rfl
theorem gi51_3 : gx_ins 51 3 = some (false, .iconst 1, 0) := rfl
theorem gi51_4 : gx_ins 51 4 = some (false, .iadd, 0) := rfl
theorem gi51_5 : gx_ins 51 5 = some (false, .ireturn, 0) := rfl
theorem gi52_0 : gx_ins 52 0 = some (false, .aload_n 0, 0) := rfl
theorem gi52_1 : gx_ins 52 1 = some (false, .iconst 0, 0) := rfl
theorem gi52_2 : gx_ins 52 2 = some (false, .putfield 156, 0) := rfl
theorem gi52_5 : gx_ins 52 5 = some (false, .aload_n 0, 0) := rfl
theorem gi52_6 : gx_ins 52 6 = some (false, .getfield 39, 0) := rfl
theorem gi52_9 : gx_ins 52 9 = some (false, .iconst 0, 0) := rfl
theorem gi52_10 : gx_ins 52 10 = some (false, .iconst 0, 0) := rfl
theorem gi52_11 : gx_ins 52 11 = some (false, .bastore, 0) := rfl
theorem gi52_12 : gx_ins 52 12 = some (false, .aload_n 0, 0) := rfl
theorem gi52_13 : gx_ins 52 13 = some (false, .getfield 39, 0) := rfl
theorem gi52_16 : gx_ins 52 16 = some (false, .iconst 1, 0) := rfl
theorem gi52_17 : gx_ins 52 17 = some (false, .iconst 0, 0) := rfl
theorem gi52_18 : gx_ins 52 18 = some (false, .bastore, 0) := rfl
theorem gi52_19 : gx_ins 52 19 = some (false, .aload_n 0, 0) := rfl
theorem gi52_20 : gx_ins 52 20 = some (false, .iconst 0, 0) := rfl
theorem gi52_21 : gx_ins 52 21 = some (false, .putfield 131, 0) := rfl
theorem gi52_24 : gx_ins 52 24 = some (false, .aload_n 0, 0) := rfl
theorem gi52_25 : gx_ins 52 25 = some (false, .iconst 0, 0) := rfl
theorem gi52_26 : gx_ins 52 26 = some (false, .putfield 159, 0) := rfl
theorem gi52_29 : gx_ins 52 29 = some (false, .return_, 0) := rfl
theorem gi53_0 : gx_ins 53 0 = some (false, .aload_n 0, 0) := rfl
theorem gi53_1 : gx_ins 53 1 = some (false, .getfield 156, 0) := rfl
theorem gi53_4 : gx_ins 53 4 = some (false, .ifCond .ne 34, 38) := rfl
theorem gi53_7 : gx_ins 53 7 = some (false, .aload_n 0, 0) := rfl
theorem gi53_8 : gx_ins 53 8 = some (false, .invokevirtual 162, 0) := rfl
theorem gi53_11 : gx_ins 53 11 = some (false, .aload_n 0, 0) := rfl
theorem gi53_12 : gx_ins 53 12 = some (false, .aload_n 0, 0) := rfl
theorem gi53_13 : gx_ins 53 13 = some (false, .getfield 19, 0) := rfl
theorem gi53_16 : gx_ins 53 16 = some (false, .invokevirtual 165, 0) := rfl
theorem gi53_19 : gx_ins 53 19 = some (false, .putfield 168, 0) := rfl
theorem gi53_22 : gx_ins 53 22 = some (false, .aload_n 0, 0) := rfl
theorem gi53_23 : gx_ins 53 23 = some (false, .getfield 19, 0) := rfl
theorem gi53_26 : gx_ins 53 26 = some (false, .aload_n 0, 0) := rfl
theorem gi53_27 : gx_ins 53 27 = some (false, .getfield 30, 0) := rfl
theorem gi53_30 : gx_ins 53 30 = some (false, .invokevirtual 171, 0) := rfl
theorem gi53_33 : gx_ins 53 33 = some (false, .aload_n 0, 0) := rfl
theorem gi53_34 : gx_ins 53 34 = some (false, .iconst 1, 0) := rfl
theorem gi53_35 : gx_ins 53 35 = some (false, .putfield 156, 0) := rfl
theorem gi53_38 : gx_ins 53 38 = some (false, .aload_n 0, 0) := rfl
theorem gi53_39 : gx_ins 53 39 = some (false, .getfield 168, 0) := rfl
theorem gi53_42 : gx_ins 53 42 = some (false, .ireturn, 0) := rfl
theorem gi54_0 : gx_ins 54 0 = some (false, .aload_n 0, 0) := rfl
theorem gi54_1 : gx_ins 54 1 = some (false, .getfield 39, 0) := rfl
theorem gi54_4 : gx_ins 54 4 = some (false, .iload_n 1, 0) := rfl
theorem gi54_5 : gx_ins 54 5 = some (false, .baload, 0) := rfl
theorem gi54_6 : gx_ins 54 6 = some (false, .ifCond .ne 110, 116) := rfl
theorem gi54_9 : gx_ins 54 9 = some (false, .aload_n 0, 0) := rfl
theorem gi54_10 : gx_ins 54 10 = some (false, .invokevirtual 162, 0) := rfl
theorem gi54_13 : gx_ins 54 13 = some (false, .aload_n 0, 0) := rfl
theorem gi54_14 : gx_ins 54 14 = some (false, .getfield 19, 0) := rfl
theorem gi54_17 : gx_ins 54 17 = some (false, .aload_n 0, 0) := rfl
theorem gi54_18 : gx_ins 54 18 = some (false, .getfield 30, 0) := rfl
theorem gi54_21 : gx_ins 54 21 = some (false, .invokevirtual 175, 0) := rfl
theorem gi54_24 : gx_ins 54 24 = some (false, .iload_n 1, 0) := rfl
theorem gi54_25 : gx_ins 54 25 = some (false, .ifCond .ne 18, 43) := rfl
theorem gi54_28 : gx_ins 54 28 = some (false, .aload_n 0, 0) := rfl
theorem gi54_29 : gx_ins 54 29 = some (false, .getfield 19, 0) := rfl
theorem gi54_32 : gx_ins 54 32 = some (false, .bipush 60, 0) := rfl
theorem gi54_34 : gx_ins 54 34 = some (false, .ldc 64, 0) := rfl
theorem gi54_36 : gx_ins 54 36 = some (false, .invokevirtual 128, 0) := rfl
theorem gi54_39 : gx_ins 54 39 = some (false, .pop, 0) := rfl
theorem gi54_40 : gx_ins 54 40 = some (false, .goto 12, 52) := rfl
theorem gi54_43 : gx_ins 54 43 = some (false, .aload_n 0, 0) := rfl
theorem gi54_44 : gx_ins 54 44 = some (false, .getfield 19, 0) := rfl
theorem gi54_47 : gx_ins 54 47 = some (false, .bipush 60, 0) := rfl
theorem gi54_49 : gx_ins 54 49 = some (false, .invokevirtual 178, 0) := rfl
theorem gi54_52 : gx_ins 54 52 = some (false, .aload_n 0, 0) := rfl
theorem gi54_53 : gx_ins 54 53 = some (false, .getfield 19, 0) := rfl
theorem gi54_56 : gx_ins 54 56 = some (false, .bipush 60, 0) := rfl
theorem gi54_58 : gx_ins 54 58 = some (false, .invokevirtual 182, 0) := rfl
theorem gi54_61 : gx_ins 54 61 = some (false, .iconst 0, 0) := rfl
theorem gi54_62 : gx_ins 54 62 = some (false, .istore_n 2, 0) := rfl
theorem gi54_63 : gx_ins 54 63 = some (true, .iload_n 2, 0) := rfl
theorem gi54_64 : gx_ins 54 64 = some (false, .aload_n 0, 0) := rfl
theorem gi54_65 : gx_ins 54 65 = some (false, .getfield 12, 0) := rfl
theorem gi54_68 : gx_ins 54 68 = some (false, .getfield 72, 0) := rfl
theorem gi54_71 : gx_ins 54 71 = some (false, .if_icmp .ge 25, 96) := rfl
theorem gi54_74 : gx_ins 54 74 = some (false, .aload_n 0, 0) := rfl
theorem gi54_75 : gx_ins 54 75 = some (false, .getfield 19, 0) := rfl
theorem gi54_78 : gx_ins 54 78 = some (false, .iload_n 2, 0) := rfl
theorem gi54_79 : gx_ins 54 79 = some (false, .invokevirtual 178, 0) := rfl
theorem gi54_82 : gx_ins 54 82 = some (false, .aload_n 0, 0) := rfl
theorem gi54_83 : gx_ins 54 83 = some (false, .getfield 19, 0) := rfl
theorem gi54_86 : gx_ins 54 86 = some (false, .iload_n 2, 0) := rfl
theorem gi54_87 : gx_ins 54 87 = some (false, .invokevirtual 182, 0) := rfl
theorem gi54_90 : gx_ins 54 90 = some (false, .iinc 2 1, 0) := rfl
theorem gi54_93 : gx_ins 54 93 = some (false, .goto (-30), 63) := rfl
theorem gi54_96 : gx_ins 54 96 = some (false, .aload_n 0, 0) := rfl
theorem gi54_97 : gx_ins 54 97 = some (false, .getfield 19, 0) := rfl
theorem gi54_100 : gx_ins 54 100 = some (false, .aload_n 0, 0) := rfl
theorem gi54_101 : gx_ins 54 101 = some (false, .getfield 36, 0) := rfl
theorem gi54_104 : gx_ins 54 104 = some (false, .iload_n 1, 0) := rfl
theorem gi54_105 : gx_ins 54 105 = some (false, .aaload, 0) := rfl
theorem gi54_106 : gx_ins 54 106 = some (false, .invokevirtual 171, 0) := rfl
theorem gi54_109 : gx_ins 54 109 = some (false, .aload_n 0, 0) := rfl
theorem gi54_110 : gx_ins 54 110 = some (false, .getfield 39, 0) := rfl
theorem gi54_113 : gx_ins 54 113 = some (false, .iload_n 1, 0) := rfl
theorem gi54_114 : gx_ins 54 114 = some (false, .iconst 1, 0) := rfl
theorem gi54_115 : gx_ins 54 115 = some (false, .bastore, 0) := rfl
theorem gi54_116 : gx_ins 54 116 = some (false, .aload_n 0, 0) := rfl
theorem gi54_117 : gx_ins 54 117 = some (false, .getfield 36, 0) := rfl
theorem gi54_120 : gx_ins 54 120 = some (false, .iload_n 1, 0) := rfl
theorem gi54_121 : gx_ins 54 121 = some (false, .aaload, 0) := rfl
theorem gi54_122 : gx_ins 54 122 = some (false, .areturn, 0) := rfl
theorem gi55_0 : gx_ins 55 0 = some (false, .aload_n 0, 0) := rfl
theorem gi55_1 : gx_ins 55 1 = some (false, .getfield 19, 0) := rfl
theorem gi55_4 : gx_ins 55 4 = some (false, .invokevirtual 185, 0) := rfl
theorem gi55_7 : gx_ins 55 7 = some (false, .iconst 0, 0) := rfl
theorem gi55_8 : gx_ins 55 8 = some (false, .istore_n 1, 0) := rfl
theorem gi55_9 : gx_ins 55 9 = some (true, .iload_n 1, 0) := rfl
theorem gi55_10 : gx_ins 55 10 = some (false, .aload_n 0, 0) := rfl
theorem gi55_11 : gx_ins 55 11 = some (false, .getfield 12, 0) := rfl
theorem gi55_14 : gx_ins 55 14 = some (false, .getfield 46, 0) := rfl
theorem gi55_17 : gx_ins 55 17 = some (false, .if_icmp .ge 64, 81) := rfl
theorem gi55_20 : gx_ins 55 20 = some (false, .aload_n 0, 0) := rfl
theorem gi55_21 : gx_ins 55 21 = some (false, .getfield 12, 0) := rfl
theorem gi55_24 : gx_ins 55 24 = some (false, .getfield 65, 0) := rfl
theorem gi55_27 : gx_ins 55 27 = some (false, .iload_n 1, 0) := rfl
theorem gi55_28 : gx_ins 55 28 = some (false, .iaload, 0) := rfl
theorem gi55_29 : gx_ins 55 29 = some (false, .istore_n 2, 0) := rfl
theorem gi55_30 : gx_ins 55 30 = some (false, .aload_n 0, 0) := rfl
theorem gi55_31 : gx_ins 55 31 = some (false, .getfield 19, 0) := rfl
theorem gi55_34 : gx_ins 55 34 = some (false, .bipush 40, 0) := rfl
theorem gi55_36 : gx_ins 55 36 = some (false, .iload_n 1, 0) := rfl
theorem gi55_37 : gx_ins 55 37 = some (false, .iadd, 0) := rfl
theorem gi55_38 : gx_ins 55 38 = some (false, .iload_n 1, 0) := rfl
theorem gi55_39 : gx_ins 55 39 = some (false, .invokestatic 188, 0) := rfl
theorem gi55_42 : gx_ins 55 42 = some (false, .iload_n 1, 0) := rfl
theorem gi55_43 : gx_ins 55 43 = some (false, .invokestatic 191, 0) := rfl
theorem gi55_46 : gx_ins 55 46 = some (false, .iconst 0, 0) := rfl
theorem gi55_47 : gx_ins 55 47 = some (false, .iload_n 2, 0) := rfl
theorem gi55_48 : gx_ins 55 48 = some (false, .iconst (-1), 0) := rfl
theorem gi55_49 : gx_ins 55 49 = some (false, .if_icmp .ne 8, 57) := rfl
theorem gi55_52 : gx_ins 55 52 = some (false, .ldc 64, 0) := rfl
theorem gi55_54 : gx_ins 55 54 = some (false, .goto 4, 58) := rfl
theorem gi55_57 : gx_ins 55 57 = some (false, .iload_n 2, 0) := rfl
theorem gi55_58 : gx_ins 55 58 = some (false, .invokevirtual 194, 0) := rfl
theorem gi55_61 : gx_ins 55 61 = some (false, .aload_n 0, 0) := rfl
theorem gi55_62 : gx_ins 55 62 = some (false, .iload_n 1, 0) := rfl
theorem gi55_63 : gx_ins 55 63 = some (false, .aload_n 0, 0) := rfl
theorem gi55_64 : gx_ins 55 64 = some (false, .getfield 12, 0) := rfl
theorem gi55_67 : gx_ins 55 67 = some (false, .getfield 61, 0) := rfl
theorem gi55_70 : gx_ins 55 70 = some (false, .iload_n 1, 0) := rfl
theorem gi55_71 : gx_ins 55 71 = some (false, .iaload, 0) := rfl
theorem gi55_72 : gx_ins 55 72 = some (false, .invokevirtual 198, 0) := rfl
theorem gi55_75 : gx_ins 55 75 = some (false, .iinc 1 1, 0) := rfl
theorem gi55_78 : gx_ins 55 78 = some (false, .goto (-69), 9) := rfl
theorem gi55_81 : gx_ins 55 81 = some (false, .iconst 0, 0) := rfl
theorem gi55_82 : gx_ins 55 82 = some (false, .istore_n 1, 0) := rfl
theorem gi55_83 : gx_ins 55 83 = some (true, .iload_n 1, 0) := rfl
theorem gi55_84 : gx_ins 55 84 = some (false, .aload_n 0, 0) := rfl
theorem gi55_85 : gx_ins 55 85 = some (false, .getfield 12, 0) := rfl
theorem gi55_88 : gx_ins 55 88 = some (false, .getfield 72, 0) := rfl
theorem gi55_91 : gx_ins 55 91 = some (false, .if_icmp .ge 74, 165) := rfl
theorem gi55_94 : gx_ins 55 94 = some (false, .aload_n 0, 0) := rfl
theorem gi55_95 : gx_ins 55 95 = some (false, .getfield 12, 0) := rfl
theorem gi55_98 : gx_ins 55 98 = some (false, .iload_n 1, 0) := rfl
theorem gi55_99 : gx_ins 55 99 = some (false, .invokevirtual 79, 0) := rfl
theorem gi55_102 : gx_ins 55 102 = some (false, .ifCond .eq 57, 159) := rfl
theorem gi55_105 : gx_ins 55 105 = some (false, .aload_n 0, 0) := rfl
theorem gi55_106 : gx_ins 55 106 = some (false, .getfield 12, 0) := rfl
theorem gi55_109 : gx_ins 55 109 = some (false, .getfield 202, 0) := rfl
theorem gi55_112 : gx_ins 55 112 = some (false, .iload_n 1, 0) := rfl
theorem gi55_113 : gx_ins 55 113 = some (false, .iaload, 0) := rfl
theorem gi55_114 : gx_ins 55 114 = some (false, .invokestatic 191, 0) := rfl
theorem gi55_117 : gx_ins 55 117 = some (false, .istore_n 2, 0) := rfl
theorem gi55_118 : gx_ins 55 118 = some (false, .aload_n 0, 0) := rfl
theorem gi55_119 : gx_ins 55 119 = some (false, .getfield 12, 0) := rfl
theorem gi55_122 : gx_ins 55 122 = some (false, .getfield 205, 0) := rfl
theorem gi55_125 : gx_ins 55 125 = some (false, .iload_n 1, 0) := rfl
theorem gi55_126 : gx_ins 55 126 = some (false, .iaload, 0) := rfl
theorem gi55_127 : gx_ins 55 127 = some (false, .invokestatic 188, 0) := rfl
theorem gi55_130 : gx_ins 55 130 = some (false, .istore_n 3, 0) := rfl
theorem gi55_131 : gx_ins 55 131 = some (false, .aload_n 0, 0) := rfl
theorem gi55_132 : gx_ins 55 132 = some (false, .getfield 19, 0) := rfl
theorem gi55_135 : gx_ins 55 135 = some (false, .iload_n 1, 0) := rfl
theorem gi55_136 : gx_ins 55 136 = some (false, .iload_n 2, 0) := rfl
theorem gi55_137 : gx_ins 55 137 = some (false, .iload_n 3, 0) := rfl
theorem gi55_138 : gx_ins 55 138 = some (false, .aload_n 0, 0) := rfl
theorem gi55_139 : gx_ins 55 139 = some (false, .getfield 12, 0) := rfl
theorem gi55_142 : gx_ins 55 142 = some (false, .getfield 82, 0) := rfl
theorem gi55_145 : gx_ins 55 145 = some (false, .iload_n 1, 0) := rfl
theorem gi55_146 : gx_ins 55 146 = some (false, .iaload, 0) := rfl
theorem gi55_147 : gx_ins 55 147 = some (false, .aload_n 0, 0) := rfl
theorem gi55_148 : gx_ins 55 148 = some (false, .getfield 12, 0) := rfl
theorem gi55_151 : gx_ins 55 151 = some (false, .getfield 85, 0) := rfl
theorem gi55_154 : gx_ins 55 154 = some (false, .iload_n 1, 0) := rfl
theorem gi55_155 : gx_ins 55 155 = some (false, .iaload, 0) := rfl
theorem gi55_156 : gx_ins 55 156 = some (false, .invokevirtual 194, 0) := rfl
theorem gi55_159 : gx_ins 55 159 = some (false, .iinc 1 1, 0) := rfl
theorem gi55_162 : gx_ins 55 162 = some (false, .goto (-79), 83) := rfl
theorem gi55_165 : gx_ins 55 165 = some (false, .aload_n 0, 0) := rfl
theorem gi55_166 : gx_ins 55 166 = some (false, .getfield 19, 0) := rfl
theorem gi55_169 : gx_ins 55 169 = some (false, .bipush 60, 0) := rfl
theorem gi55_171 : gx_ins 55 171 = some (false, .bipush 21, 0) := rfl
theorem gi55_173 : gx_ins 55 173 = some (false, .bipush 20, 0) := rfl
theorem gi55_175 : gx_ins 55 175 = some (false, .iconst 0, 0) := rfl
theorem gi55_176 : gx_ins 55 176 = some (false, .ldc 64, 0) := rfl
theorem gi55_178 : gx_ins 55 178 = some (false, .invokevirtual 194, 0) := rfl
theorem gi55_181 : gx_ins 55 181 = some (false, .return_, 0) := rfl
theorem gi56_0 : gx_ins 56 0 = some (false, .iload_n 2, 0) := rfl
theorem gi56_1 : gx_ins 56 1 = some (false, .iconst 1, 0) := rfl
theorem gi56_2 : gx_ins 56 2 = some (false, .if_icmp .ne 26, 28) := rfl
theorem gi56_5 : gx_ins 56 5 = some (false, .aload_n 0, 0) := rfl
theorem gi56_6 : gx_ins 56 6 = some (false, .getfield 19, 0) := rfl
theorem gi56_9 : gx_ins 56 9 = some (false, .bipush 50, 0) := rfl
theorem gi56_11 : gx_ins 56 11 = some (false, .iload_n 1, 0) := rfl
theorem gi56_12 : gx_ins 56 12 = some (false, .iadd, 0) := rfl
theorem gi56_13 : gx_ins 56 13 = some (false, .bipush 20, 0) := rfl
theorem gi56_15 : gx_ins 56 15 = some (false, .iload_n 1, 0) := rfl
theorem gi56_16 : gx_ins 56 16 = some (false, .invokestatic 188, 0) := rfl
theorem gi56_19 : gx_ins 56 19 = some (false, .iconst 0, 0) := rfl
theorem gi56_20 : gx_ins 56 20 = some (false, .ldc 64, 0) := rfl
theorem gi56_22 : gx_ins 56 22 = some (false, .invokevirtual 194, 0) := rfl
theorem gi56_25 : gx_ins 56 25 = some (false, .goto 28, 53) := rfl
theorem gi56_28 : gx_ins 56 28 = some (false, .iload_n 2, 0) := rfl
theorem gi56_29 : gx_ins 56 29 = some (false, .iconst 2, 0) := rfl
theorem gi56_30 : gx_ins 56 30 = some (false, .if_icmp .ne 23, 53) := rfl
theorem gi56_33 : gx_ins 56 33 = some (false, .aload_n 0, 0) := rfl
theorem gi56_34 : gx_ins 56 34 = some (false, .getfield 19, 0) := rfl
theorem gi56_37 : gx_ins 56 37 = some (false, .bipush 50, 0) := rfl
theorem gi56_39 : gx_ins 56 39 = some (false, .iload_n 1, 0) := rfl
theorem gi56_40 : gx_ins 56 40 = some (false, .iadd, 0) := rfl
theorem gi56_41 : gx_ins 56 41 = some (false, .iload_n 1, 0) := rfl
theorem gi56_42 : gx_ins 56 42 = some (false, .invokestatic 191, 0) := rfl
theorem gi56_45 : gx_ins 56 45 = some (false, .bipush 21, 0) := rfl
theorem gi56_47 : gx_ins 56 47 = some (false, .iconst 0, 0) := rfl
theorem gi56_48 : gx_ins 56 48 = some (false, .ldc 64, 0) := rfl
theorem gi56_50 : gx_ins 56 50 = some (false, .invokevirtual 194, 0) := rfl
theorem gi56_53 : gx_ins 56 53 = some (false, .return_, 0) := rfl
theorem gi57_0 : gx_ins 57 0 = some (false, .aload_n 0, 0) := rfl
theorem gi57_1 : gx_ins 57 1 = some (false, .iconst 0, 0) := rfl
theorem gi57_2 : gx_ins 57 2 = some (false, .invokevirtual 102, 0) := rfl
theorem gi57_5 : gx_ins 57 5 = some (false, .astore_n 1, 0) := rfl
theorem gi57_6 : gx_ins 57 6 = some (false, .aload_n 0, 0) := rfl
theorem gi57_7 : gx_ins 57 7 = some (false, .invokevirtual 162, 0) := rfl
theorem gi57_10 : gx_ins 57 10 = some (false, .aload_n 0, 0) := rfl
theorem gi57_11 : gx_ins 57 11 = some (false, .getfield 19, 0) := rfl
theorem gi57_14 : gx_ins 57 14 = some (false, .aload_n 1, 0) := rfl
theorem gi57_15 : gx_ins 57 15 = some (false, .invokevirtual 175, 0) := rfl
theorem gi57_18 : gx_ins 57 18 = some (false, .return_, 0) := rfl
theorem gi58_0 : gx_ins 58 0 = some (false, .aload_n 0, 0) := rfl
theorem gi58_1 : gx_ins 58 1 = some (false, .getfield 12, 0) := rfl
theorem gi58_4 : gx_ins 58 4 = some (false, .iload_n 1, 0) := rfl
theorem gi58_5 : gx_ins 58 5 = some (false, .invokevirtual 57, 0) := rfl
theorem gi58_8 : gx_ins 58 8 = some (false, .ifCond .ne 5, 13) := rfl
theorem gi58_11 : gx_ins 58 11 = some (false, .iconst (-1), 0) := rfl
theorem gi58_12 : gx_ins 58 12 = some (false, .ireturn, 0) := rfl
theorem gi58_13 : gx_ins 58 13 = some (false, .aload_n 0, 0) := rfl
theorem gi58_14 : gx_ins 58 14 = some (false, .getfield 12, 0) := rfl
theorem gi58_17 : gx_ins 58 17 = some (false, .getfield 61, 0) := rfl
theorem gi58_20 : gx_ins 58 20 = some (false, .iload_n 1, 0) := rfl
theorem gi58_21 : gx_ins 58 21 = some (false, .iaload, 0) := rfl
theorem gi58_22 : gx_ins 58 22 = some (false, .ifCond .eq 6, 28) := rfl
theorem gi58_25 : gx_ins 58 25 = some (false, .bipush (-2), 0) := rfl
theorem gi58_27 : gx_ins 58 27 = some (false, .ireturn, 0) := rfl
theorem gi58_28 : gx_ins 58 28 = some (false, .aload_n 0, 0) := rfl
theorem gi58_29 : gx_ins 58 29 = some (false, .invokevirtual 95, 0) := rfl
theorem gi58_32 : gx_ins 58 32 = some (false, .ifCond .ne 6, 38) := rfl
theorem gi58_35 : gx_ins 58 35 = some (false, .bipush (-3), 0) := rfl
theorem gi58_37 : gx_ins 58 37 = some (false, .ireturn, 0) := rfl
theorem gi58_38 : gx_ins 58 38 = some (false, .aload_n 0, 0) := rfl
theorem gi58_39 : gx_ins 58 39 = some (false, .invokevirtual 122, 0) := rfl
theorem gi58_42 : gx_ins 58 42 = some (false, .aload_n 0, 0) := rfl
theorem gi58_43 : gx_ins 58 43 = some (false, .iload_n 1, 0) := rfl
theorem gi58_44 : gx_ins 58 44 = some (false, .iload_n 2, 0) := rfl
theorem gi58_45 : gx_ins 58 45 = some (false, .invokevirtual 198, 0) := rfl
theorem gi58_48 : gx_ins 58 48 = some (false, .aload_n 0, 0) := rfl
theorem gi58_49 : gx_ins 58 49 = some (false, .getfield 19, 0) := rfl
theorem gi58_52 : gx_ins 58 52 = some (false, .bipush 60, 0) := rfl
theorem gi58_54 : gx_ins 58 54 = some (false, .iconst 1, 0) := rfl
theorem gi58_55 : gx_ins 58 55 = some (false, .invokevirtual 128, 0) := rfl
theorem gi58_58 : gx_ins 58 58 = some (false, .ireturn, 0) := rfl
theorem gi59_0 : gx_ins 59 0 = some (false, .aload_n 0, 0) := rfl
theorem gi59_1 : gx_ins 59 1 = some (false, .invokevirtual 162, 0) := rfl
theorem gi59_4 : gx_ins 59 4 = some (false, .aload_n 0, 0) := rfl
theorem gi59_5 : gx_ins 59 5 = some (false, .iconst 0, 0) := rfl
theorem gi59_6 : gx_ins 59 6 = some (false, .putfield 138, 0) := rfl
theorem gi59_9 : gx_ins 59 9 = some (false, .aload_n 0, 0) := rfl
theorem gi59_10 : gx_ins 59 10 = some (false, .getfield 12, 0) := rfl
theorem gi59_13 : gx_ins 59 13 = some (false, .getfield 72, 0) := rfl
theorem gi59_16 : gx_ins 59 16 = some (false, .iconst 1, 0) := rfl
theorem gi59_17 : gx_ins 59 17 = some (false, .isub, 0) := rfl
theorem gi59_18 : gx_ins 59 18 = some (false, .istore_n 1, 0) := rfl
theorem gi59_19 : gx_ins 59 19 = some (true, .iload_n 1, 0) := rfl
theorem gi59_20 : gx_ins 59 20 = some (false, .ifCond .lt 73, 93) := rfl
theorem gi59_23 : gx_ins 59 23 = some (false, .aload_n 0, 0) := rfl
theorem gi59_24 : gx_ins 59 24 = some (false, .getfield 19, 0) := rfl
theorem gi59_27 : gx_ins 59 27 = some (false, .getfield 208, 0) := rfl
theorem gi59_30 : gx_ins 59 30 = some (false, .iload_n 1, 0) := rfl
theorem gi59_31 : gx_ins 59 31 = some (false, .iaload, 0) := rfl
theorem gi59_32 : gx_ins 59 32 = some (false, .istore_n 2, 0) := rfl
theorem gi59_33 : gx_ins 59 33 = some (false, .iload_n 2, 0) := rfl
theorem gi59_34 : gx_ins 59 34 = some (false, .ifCond .le 53, 87) := rfl
theorem gi59_37 : gx_ins 59 37 = some (false, .aload_n 0, 0) := rfl
theorem gi59_38 : gx_ins 59 38 = some (false, .getfield 19, 0) := rfl
theorem gi59_41 : gx_ins 59 41 = some (false, .getfield 208, 0) := rfl
theorem gi59_44 : gx_ins 59 44 = some (false, .iload_n 1, 0) := rfl
theorem gi59_45 : gx_ins 59 45 = some (false, .iconst 0, 0) := rfl
theorem gi59_46 : gx_ins 59 46 = some (false, .iastore, 0) := rfl
theorem gi59_47 : gx_ins 59 47 = some (false, .aload_n 0, 0) := rfl
theorem gi59_48 : gx_ins 59 48 = some (false, .getfield 19, 0) := rfl
theorem gi59_51 : gx_ins 59 51 = some (false, .invokevirtual 165, 0) := rfl
theorem gi59_54 : gx_ins 59 54 = some (false, .ifCond .eq 33, 87) := rfl
theorem gi59_57 : gx_ins 59 57 = some (false, .aload_n 0, 0) := rfl
theorem gi59_58 : gx_ins 59 58 = some (false, .getfield 19, 0) := rfl
theorem gi59_61 : gx_ins 59 61 = some (false, .getfield 208, 0) := rfl
theorem gi59_64 : gx_ins 59 64 = some (false, .iload_n 1, 0) := rfl
theorem gi59_65 : gx_ins 59 65 = some (false, .iload_n 2, 0) := rfl
theorem gi59_66 : gx_ins 59 66 = some (false, .iastore, 0) := rfl
theorem gi59_67 : gx_ins 59 67 = some (false, .aload_n 0, 0) := rfl
theorem gi59_68 : gx_ins 59 68 = some (false, .getfield 43, 0) := rfl
theorem gi59_71 : gx_ins 59 71 = some (false, .aload_n 0, 0) := rfl
theorem gi59_72 : gx_ins 59 72 = some (false, .getfield 138, 0) := rfl
theorem gi59_75 : gx_ins 59 75 = some (false, .iload_n 1, 0) := rfl
theorem gi59_76 : gx_ins 59 76 = some (false, .iastore, 0) := rfl
theorem gi59_77 : gx_ins 59 77 = some (false, .aload_n 0, 0) := rfl
theorem gi59_78 : gx_ins 59 78 = some (false, .dup, 0) := rfl
theorem gi59_79 : gx_ins 59 79 = some (false, .getfield 138, 0) := rfl
theorem gi59_82 : gx_ins 59 82 = some (false, .iconst 1, 0) := rfl
theorem gi59_83 : gx_ins 59 83 = some (false, .iadd, 0) := rfl
theorem gi59_84 : gx_ins 59 84 = some (false, .putfield 138, 0) := rfl
theorem gi59_87 : gx_ins 59 87 = some (false, .iinc 1 (-1), 0) := rfl
theorem gi59_90 : gx_ins 59 90 = some (false, .goto (-71), 19) := rfl
theorem gi59_93 : gx_ins 59 93 = some (false, .aload_n 0, 0) := rfl
theorem gi59_94 : gx_ins 59 94 = some (false, .iconst 1, 0) := rfl
theorem gi59_95 : gx_ins 59 95 = some (false, .putfield 131, 0) := rfl
theorem gi59_98 : gx_ins 59 98 = some (false, .return_, 0) := rfl
theorem gi60_0 : gx_ins 60 0 = some (false, .aload_n 0, 0) := rfl
theorem gi60_1 : gx_ins 60 1 = some (false, .getfield 159, 0) := rfl
theorem gi60_4 : gx_ins 60 4 = some (false, .ifCond .ne 24, 28) := rfl
theorem gi60_7 : gx_ins 60 7 = some (false, .aload_n 0, 0) := rfl
theorem gi60_8 : gx_ins 60 8 = some (false, .getfield 26, 0) := rfl
theorem gi60_11 : gx_ins 60 11 = some (false, .aload_n 0, 0) := rfl
theorem gi60_12 : gx_ins 60 12 = some (false, .getfield 12, 0) := rfl
theorem gi60_15 : gx_ins 60 15 = some (false, .aload_n 0, 0) := rfl
theorem gi60_16 : gx_ins 60 16 = some (false, .iconst 0, 0) := rfl
theorem gi60_17 : gx_ins 60 17 = some (false, .invokevirtual 102, 0) := rfl
theorem gi60_20 : gx_ins 60 20 = some (false, .invokevirtual 211, 0) := rfl
theorem gi60_23 : gx_ins 60 23 = some (false, .aload_n 0, 0) := rfl
theorem gi60_24 : gx_ins 60 24 = some (false, .iconst 1, 0) := rfl
theorem gi60_25 : gx_ins 60 25 = some (false, .putfield 159, 0) := rfl
theorem gi60_28 : gx_ins 60 28 = some (false, .return_, 0) := rfl
theorem gi61_0 : gx_ins 61 0 = some (false, .aload_n 0, 0) := rfl
theorem gi61_1 : gx_ins 61 1 = some (false, .getfield 41, 0) := rfl
theorem gi61_4 : gx_ins 61 4 = some (false, .bipush 24, 0) := rfl
theorem gi61_6 : gx_ins 61 6 = some (false, .iload_n 1, 0) := rfl
theorem gi61_7 : gx_ins 61 7 = some (false, .imul, 0) := rfl
theorem gi61_8 : gx_ins 61 8 = some (false, .iload_n 2, 0) := rfl
theorem gi61_9 : gx_ins 61 9 = some (false, .iadd, 0) := rfl
theorem gi61_10 : gx_ins 61 10 = some (false, .dup2, 0) := rfl
theorem gi61_11 : gx_ins 61 11 = some (false, .iaload, 0) := rfl
theorem gi61_12 : gx_ins 61 12 = some (false, .iload 4, 0) := rfl
theorem gi61_14 : gx_ins 61 14 = some (false, .iload_n 3, 0) := rfl
theorem gi61_15 : gx_ins 61 15 = some (false, .isub, 0) := rfl
theorem gi61_16 : gx_ins 61 16 = some (false, .iadd, 0) := rfl
theorem gi61_17 : gx_ins 61 17 = some (false, .iastore, 0) := rfl
theorem gi61_18 : gx_ins 61 18 = some (false, .iload_n 3, 0) := rfl
theorem gi61_19 : gx_ins 61 19 = some (false, .ifCond .le 43, 62) := rfl
theorem gi61_22 : gx_ins 61 22 = some (false, .aload_n 0, 0) := rfl
theorem gi61_23 : gx_ins 61 23 = some (false, .getfield 41, 0) := rfl
theorem gi61_26 : gx_ins 61 26 = some (false, .sipush 528, 0) := rfl
theorem gi61_29 : gx_ins 61 29 = some (false, .iload_n 2, 0) := rfl
theorem gi61_30 : gx_ins 61 30 = some (false, .iadd, 0) := rfl
theorem gi61_31 : gx_ins 61 31 = some (false, .dup2, 0) := rfl
theorem gi61_32 : gx_ins 61 32 = some (false, .iaload, 0) := rfl
theorem gi61_33 : gx_ins 61 33 = some (false, .iload_n 3, 0) := rfl
theorem gi61_34 : gx_ins 61 34 = some (false, .iadd, 0) := rfl
theorem gi61_35 : gx_ins 61 35 = some (false, .iastore, 0) := rfl
theorem gi61_36 : gx_ins 61 36 = some (false, .aload_n 0, 0) := rfl
theorem gi61_37 : gx_ins 61 37 = some (false, .getfield 41, 0) := rfl
theorem gi61_40 : gx_ins 61 40 = some (false, .bipush 24, 0) := rfl
theorem gi61_42 : gx_ins 61 42 = some (false, .iload_n 1, 0) := rfl
theorem gi61_43 : gx_ins 61 43 = some (false, .imul, 0) := rfl
theorem gi61_44 : gx_ins 61 44 = some (false, .bipush 23, 0) := rfl
theorem gi61_46 : gx_ins 61 46 = some (false, .iadd, 0) := rfl
theorem gi61_47 : gx_ins 61 47 = some (false, .dup2, 0) := rfl
theorem gi61_48 : gx_ins 61 48 = some (false, .iaload, 0) := rfl
theorem gi61_49 : gx_ins 61 49 = some (false, .iload_n 3, 0) := rfl
theorem gi61_50 : gx_ins 61 50 = some (false, .iadd, 0) := rfl
theorem gi61_51 : gx_ins 61 51 = some (false, .iastore, 0) := rfl
theorem gi61_52 : gx_ins 61 52 = some (false, .aload_n 0, 0) := rfl
theorem gi61_53 : gx_ins 61 53 = some (false, .dup, 0) := rfl
theorem gi61_54 : gx_ins 61 54 = some (false, .getfield 80, 0) := rfl
theorem gi61_57 : gx_ins 61 57 = some (false, .iload_n 3, 0) := rfl
theorem gi61_58 : gx_ins 61 58 = some (false, .iadd, 0) := rfl
theorem gi61_59 : gx_ins 61 59 = some (false, .putfield 80, 0) := rfl
theorem gi61_62 : gx_ins 61 62 = some (false, .return_, 0) := rfl
theorem gi62_0 : gx_ins 62 0 = some (false, .iconst 0, 0) := rfl
theorem gi62_1 : gx_ins 62 1 = some (false, .istore_n 3, 0) := rfl
theorem gi62_2 : gx_ins 62 2 = some (true, .iload_n 3, 0) := rfl
theorem gi62_3 : gx_ins 62 3 = some (false, .sipush 576, 0) := rfl
theorem gi62_6 : gx_ins 62 6 = some (false, .if_icmp .ge 16, 22) := rfl
theorem gi62_9 : gx_ins 62 9 = some (false, .aload_n 0, 0) := rfl
theorem gi62_10 : gx_ins 62 10 = some (false, .getfield 41, 0) := rfl
theorem gi62_13 : gx_ins 62 13 = some (false, .iload_n 3, 0) := rfl
theorem gi62_14 : gx_ins 62 14 = some (false, .iconst 0, 0) := rfl
theorem gi62_15 : gx_ins 62 15 = some (false, .iastore, 0) := rfl
theorem gi62_16 : gx_ins 62 16 = some (false, .iinc 3 1, 0) := rfl
theorem gi62_19 : gx_ins 62 19 = some (false, .goto (-17), 2) := rfl
theorem gi62_22 : gx_ins 62 22 = some (false, .aload_n 0, 0) := rfl
theorem gi62_23 : gx_ins 62 23 = some (false, .iconst 0, 0) := rfl
theorem gi62_24 : gx_ins 62 24 = some (false, .putfield 80, 0) := rfl
theorem gi62_27 : gx_ins 62 27 = some (false, .iconst 0, 0) := rfl
theorem gi62_28 : gx_ins 62 28 = some (false, .istore_n 3, 0) := rfl
theorem gi62_29 : gx_ins 62 29 = some (true, .iload_n 3, 0) := rfl
theorem gi62_30 : gx_ins 62 30 = some (false, .aload_n 0, 0) := rfl
theorem gi62_31 : gx_ins 62 31 = some (false, .getfield 84, 0) := rfl
theorem gi62_34 : gx_ins 62 34 = some (false, .if_icmp .ge 52, 86) := rfl
theorem gi62_37 : gx_ins 62 37 = some (false, .aload_n 0, 0) := rfl
theorem gi62_38 : gx_ins 62 38 = some (false, .getfield 28, 0) := rfl
theorem gi62_41 : gx_ins 62 41 = some (false, .iload_n 3, 0) := rfl
theorem gi62_42 : gx_ins 62 42 = some (false, .baload, 0) := rfl
theorem gi62_43 : gx_ins 62 43 = some (false, .ifCond .eq 37, 80) := rfl
theorem gi62_46 : gx_ins 62 46 = some (false, .aload_n 0, 0) := rfl
theorem gi62_47 : gx_ins 62 47 = some (false, .iconst 2, 0) := rfl
theorem gi62_48 : gx_ins 62 48 = some (false, .aload_n 0, 0) := rfl
theorem gi62_49 : gx_ins 62 49 = some (false, .getfield 16, 0) := rfl
theorem gi62_52 : gx_ins 62 52 = some (false, .iload_n 3, 0) := rfl
theorem gi62_53 : gx_ins 62 53 = some (false, .iaload, 0) := rfl
theorem gi62_54 : gx_ins 62 54 = some (false, .imul, 0) := rfl
theorem gi62_55 : gx_ins 62 55 = some (false, .iconst 1, 0) := rfl
theorem gi62_56 : gx_ins 62 56 = some (false, .iadd, 0) := rfl
theorem gi62_57 : gx_ins 62 57 = some (false, .iconst 2, 0) := rfl
theorem gi62_58 : gx_ins 62 58 = some (false, .aload_n 0, 0) := rfl
theorem gi62_59 : gx_ins 62 59 = some (false, .getfield 19, 0) := rfl
theorem gi62_62 : gx_ins 62 62 = some (false, .iload_n 3, 0) := rfl
theorem gi62_63 : gx_ins 62 63 = some (false, .iaload, 0) := rfl
theorem gi62_64 : gx_ins 62 64 = some (false, .imul, 0) := rfl
theorem gi62_65 : gx_ins 62 65 = some (false, .aload_n 0, 0) := rfl
theorem gi62_66 : gx_ins 62 66 = some (false, .getfield 32, 0) := rfl
theorem gi62_69 : gx_ins 62 69 = some (false, .iload_n 3, 0) := rfl
theorem gi62_70 : gx_ins 62 70 = some (false, .iaload, 0) := rfl
theorem gi62_71 : gx_ins 62 71 = some (false, .aload_n 0, 0) := rfl
theorem gi62_72 : gx_ins 62 72 = some (false, .getfield 35, 0) := rfl
theorem gi62_75 : gx_ins 62 75 = some (false, .iload_n 3, 0) := rfl
theorem gi62_76 : gx_ins 62 76 = some (false, .iaload, 0) := rfl
theorem gi62_77 : gx_ins 62 77 = some (false, .invokevirtual 87, 0) := rfl
theorem gi62_80 : gx_ins 62 80 = some (false, .iinc 3 1, 0) := rfl
theorem gi62_83 : gx_ins 62 83 = some (false, .goto (-54), 29) := rfl
theorem gi62_86 : gx_ins 62 86 = some (false, .iconst 0, 0) := rfl
theorem gi62_87 : gx_ins 62 87 = some (false, .istore_n 3, 0) := rfl
theorem gi62_88 : gx_ins 62 88 = some (true, .iload_n 3, 0) := rfl
theorem gi62_89 : gx_ins 62 89 = some (false, .aload_n 0, 0) := rfl
theorem gi62_90 : gx_ins 62 90 = some (false, .getfield 91, 0) := rfl
theorem gi62_93 : gx_ins 62 93 = some (false, .if_icmp .ge 88, 181) := rfl
theorem gi62_96 : gx_ins 62 96 = some (false, .aload_n 0, 0) := rfl
theorem gi62_97 : gx_ins 62 97 = some (false, .iconst 2, 0) := rfl
theorem gi62_98 : gx_ins 62 98 = some (false, .iload_n 3, 0) := rfl
theorem gi62_99 : gx_ins 62 99 = some (false, .imul, 0) := rfl
theorem gi62_100 : gx_ins 62 100 = some (false, .iconst 2, 0) := rfl
theorem gi62_101 : gx_ins 62 101 = some (false, .iload_n 3, 0) := rfl
theorem gi62_102 : gx_ins 62 102 = some (false, .imul, 0) := rfl
theorem gi62_103 : gx_ins 62 103 = some (false, .iconst 1, 0) := rfl
theorem gi62_104 : gx_ins 62 104 = some (false, .iadd, 0) := rfl
theorem gi62_105 : gx_ins 62 105 = some (false, .iconst 0, 0) := rfl
theorem gi62_106 : gx_ins 62 106 = some (false, .aload_n 0, 0) := rfl
theorem gi62_107 : gx_ins 62 107 = some (false, .getfield 13, 0) := rfl
theorem gi62_110 : gx_ins 62 110 = some (false, .iload_n 3, 0) := rfl
theorem gi62_111 : gx_ins 62 111 = some (false, .iaload, 0) := rfl
theorem gi62_112 : gx_ins 62 112 = some (false, .ifCond .ge 8, 120) := rfl
theorem gi62_115 : gx_ins 62 115 = some (false, .ldc 94, 0) := rfl
theorem gi62_117 : gx_ins 62 117 = some (false, .goto 9, 126) := rfl
theorem gi62_120 : gx_ins 62 120 = some (false, .aload_n 0, 0) := rfl
theorem gi62_121 : gx_ins 62 121 = some (false, .getfield 13, 0) := rfl
theorem gi62_124 : gx_ins 62 124 = some (false, .iload_n 3, 0) := rfl
theorem gi62_125 : gx_ins 62 125 = some (false, .iaload, 0) := rfl
theorem gi62_126 : gx_ins 62 126 = some (false, .invokevirtual 87, 0) := rfl
theorem gi62_129 : gx_ins 62 129 = some (false, .aload_n 0, 0) := rfl
theorem gi62_130 : gx_ins 62 130 = some (false, .getfield 38, 0) := rfl
theorem gi62_133 : gx_ins 62 133 = some (false, .iload_n 3, 0) := rfl
theorem gi62_134 : gx_ins 62 134 = some (false, .iaload, 0) := rfl
theorem gi62_135 : gx_ins 62 135 = some (false, .iconst 1, 0) := rfl
theorem gi62_136 : gx_ins 62 136 = some (false, .if_icmp .ne 15, 151) := rfl
theorem gi62_139 : gx_ins 62 139 = some (false, .aload_n 0, 0) := rfl
theorem gi62_140 : gx_ins 62 140 = some (false, .bipush 20, 0) := rfl
theorem gi62_142 : gx_ins 62 142 = some (false, .iconst 2, 0) := rfl
theorem gi62_143 : gx_ins 62 143 = some (false, .iload_n 3, 0) := rfl
theorem gi62_144 : gx_ins 62 144 = some (false, .imul, 0) := rfl
theorem gi62_145 : gx_ins 62 145 = some (false, .iconst 0, 0) := rfl
theorem gi62_146 : gx_ins 62 146 = some (false, .ldc 94, 0) := rfl
theorem gi62_148 : gx_ins 62 148 = some (false, .invokevirtual 87, 0) := rfl
theorem gi62_151 : gx_ins 62 151 = some (false, .aload_n 0, 0) := rfl
theorem gi62_152 : gx_ins 62 152 = some (false, .getfield 38, 0) := rfl
theorem gi62_155 : gx_ins 62 155 = some (false, .iload_n 3, 0) := rfl
theorem gi62_156 : gx_ins 62 156 = some (false, .iaload, 0) := rfl
theorem gi62_157 : gx_ins 62 157 = some (false, .iconst 2, 0) := rfl
theorem gi62_158 : gx_ins 62 158 = some (false, .if_icmp .ne 17, 175) := rfl
theorem gi62_161 : gx_ins 62 161 = some (false, .aload_n 0, 0) := rfl
theorem gi62_162 : gx_ins 62 162 = some (false, .iconst 2, 0) := rfl
theorem gi62_163 : gx_ins 62 163 = some (false, .iload_n 3, 0) := rfl
theorem gi62_164 : gx_ins 62 164 = some (false, .imul, 0) := rfl
theorem gi62_165 : gx_ins 62 165 = some (false, .iconst 1, 0) := rfl
theorem gi62_166 : gx_ins 62 166 = some (false, .iadd, 0) := rfl
theorem gi62_167 : gx_ins 62 167 = some (false, .bipush 21, 0) := rfl
theorem gi62_169 : gx_ins 62 169 = some (false, .iconst 0, 0) := rfl
theorem gi62_170 : gx_ins 62 170 = some (false, .ldc 94, 0) := rfl
theorem gi62_172 : gx_ins 62 172 = some (false, .invokevirtual 87, 0) := rfl
theorem gi62_175 : gx_ins 62 175 = some (false, .iinc 3 1, 0) := rfl
theorem gi62_178 : gx_ins 62 178 = some (false, .goto (-90), 88) := rfl
theorem gi62_181 : gx_ins 62 181 = some (false, .aload_n 0, 0) := rfl
theorem gi62_182 : gx_ins 62 182 = some (false, .bipush 21, 0) := rfl
theorem gi62_184 : gx_ins 62 184 = some (false, .bipush 20, 0) := rfl
theorem gi62_186 : gx_ins 62 186 = some (false, .iload_n 1, 0) := rfl
theorem gi62_187 : gx_ins 62 187 = some (false, .iload_n 2, 0) := rfl
theorem gi62_188 : gx_ins 62 188 = some (false, .invokevirtual 87, 0) := rfl
theorem gi62_191 : gx_ins 62 191 = some (false, .return_, 0) := rfl
theorem gi63_0 : gx_ins 63 0 = some (false, .iconst 0, 0) := rfl
theorem gi63_1 : gx_ins 63 1 = some (false, .istore_n 1, 0) := rfl
theorem gi63_2 : gx_ins 63 2 = some (true, .iload_n 1, 0) := rfl
theorem gi63_3 : gx_ins 63 3 = some (false, .bipush 24, 0) := rfl
theorem gi63_5 : gx_ins 63 5 = some (false, .if_icmp .ge 16, 21) := rfl
theorem gi63_8 : gx_ins 63 8 = some (false, .aload_n 0, 0) := rfl
theorem gi63_9 : gx_ins 63 9 = some (false, .getfield 44, 0) := rfl
theorem gi63_12 : gx_ins 63 12 = some (false, .iload_n 1, 0) := rfl
theorem gi63_13 : gx_ins 63 13 = some (false, .iconst (-1), 0) := rfl
theorem gi63_14 : gx_ins 63 14 = some (false, .iastore, 0) := rfl
theorem gi63_15 : gx_ins 63 15 = some (false, .iinc 1 1, 0) := rfl
theorem gi63_18 : gx_ins 63 18 = some (false, .goto (-16), 2) := rfl
theorem gi63_21 : gx_ins 63 21 = some (false, .aload_n 0, 0) := rfl
theorem gi63_22 : gx_ins 63 22 = some (false, .getfield 44, 0) := rfl
theorem gi63_25 : gx_ins 63 25 = some (false, .bipush 22, 0) := rfl
theorem gi63_27 : gx_ins 63 27 = some (false, .bipush 22, 0) := rfl
theorem gi63_29 : gx_ins 63 29 = some (false, .iastore, 0) := rfl
theorem gi63_30 : gx_ins 63 30 = some (false, .aload_n 0, 0) := rfl
theorem gi63_31 : gx_ins 63 31 = some (false, .getfield 47, 0) := rfl
theorem gi63_34 : gx_ins 63 34 = some (false, .iconst 0, 0) := rfl
theorem gi63_35 : gx_ins 63 35 = some (false, .bipush 22, 0) := rfl
theorem gi63_37 : gx_ins 63 37 = some (false, .iastore, 0) := rfl
theorem gi63_38 : gx_ins 63 38 = some (false, .iconst 0, 0) := rfl
theorem gi63_39 : gx_ins 63 39 = some (false, .istore_n 1, 0) := rfl
theorem gi63_40 : gx_ins 63 40 = some (false, .iconst 1, 0) := rfl
theorem gi63_41 : gx_ins 63 41 = some (false, .istore_n 2, 0) := rfl
theorem gi63_42 : gx_ins 63 42 = some (true, .iload_n 1, 0) := rfl
theorem gi63_43 : gx_ins 63 43 = some (false, .iload_n 2, 0) := rfl
theorem gi63_44 : gx_ins 63 44 = some (false, .if_icmp .ge 86, 130) := rfl
theorem gi63_47 : gx_ins 63 47 = some (false, .aload_n 0, 0) := rfl
theorem gi63_48 : gx_ins 63 48 = some (false, .getfield 44, 0) := rfl
theorem gi63_51 : gx_ins 63 51 = some (false, .bipush 23, 0) := rfl
theorem gi63_53 : gx_ins 63 53 = some (false, .iaload, 0) := rfl
theorem gi63_54 : gx_ins 63 54 = some (false, .ifCond .ge 76, 130) := rfl
theorem gi63_57 : gx_ins 63 57 = some (false, .aload_n 0, 0) := rfl
theorem gi63_58 : gx_ins 63 58 = some (false, .getfield 47, 0) := rfl
theorem gi63_61 : gx_ins 63 61 = some (false, .iload_n 1, 0) := rfl
theorem gi63_62 : gx_ins 63 62 = some (false, .iaload, 0) := rfl
theorem gi63_63 : gx_ins 63 63 = some (false, .istore_n 3, 0) := rfl
theorem gi63_64 : gx_ins 63 64 = some (false, .iinc 1 1, 0) := rfl
theorem gi63_67 : gx_ins 63 67 = some (false, .iconst 0, 0) := rfl
theorem gi63_68 : gx_ins 63 68 = some (false, .istore 4, 0) := rfl
theorem gi63_70 : gx_ins 63 70 = some (true, .iload 4, 0) := rfl
theorem gi63_72 : gx_ins 63 72 = some (false, .bipush 24, 0) := rfl
theorem gi63_74 : gx_ins 63 74 = some (false, .if_icmp .ge 53, 127) := rfl
theorem gi63_77 : gx_ins 63 77 = some (false, .aload_n 0, 0) := rfl
theorem gi63_78 : gx_ins 63 78 = some (false, .getfield 44, 0) := rfl
theorem gi63_81 : gx_ins 63 81 = some (false, .iload 4, 0) := rfl
theorem gi63_83 : gx_ins 63 83 = some (false, .iaload, 0) := rfl
theorem gi63_84 : gx_ins 63 84 = some (false, .ifCond .ge 37, 121) := rfl
theorem gi63_87 : gx_ins 63 87 = some (false, .aload_n 0, 0) := rfl
theorem gi63_88 : gx_ins 63 88 = some (false, .getfield 41, 0) := rfl
theorem gi63_91 : gx_ins 63 91 = some (false, .bipush 24, 0) := rfl
theorem gi63_93 : gx_ins 63 93 = some (false, .iload_n 3, 0) := rfl
theorem gi63_94 : gx_ins 63 94 = some (false, .imul, 0) := rfl
theorem gi63_95 : gx_ins 63 95 = some (false, .iload 4, 0) := rfl
theorem gi63_97 : gx_ins 63 97 = some (false, .iadd, 0) := rfl
theorem gi63_98 : gx_ins 63 98 = some (false, .iaload, 0) := rfl
theorem gi63_99 : gx_ins 63 99 = some (false, .ifCond .le 22, 121) := rfl
theorem gi63_102 : gx_ins 63 102 = some (false, .aload_n 0, 0) := rfl
theorem gi63_103 : gx_ins 63 103 = some (false, .getfield 44, 0) := rfl
theorem gi63_106 : gx_ins 63 106 = some (false, .iload 4, 0) := rfl
theorem gi63_108 : gx_ins 63 108 = some (false, .iload_n 3, 0) := rfl
theorem gi63_109 : gx_ins 63 109 = some (false, .iastore, 0) := rfl
theorem gi63_110 : gx_ins 63 110 = some (false, .aload_n 0, 0) := rfl
theorem gi63_111 : gx_ins 63 111 = some (false, .getfield 47, 0) := rfl
theorem gi63_114 : gx_ins 63 114 = some (false, .iload_n 2, 0) := rfl
theorem gi63_115 : gx_ins 63 115 = some (false, .iload 4, 0) := rfl
theorem gi63_117 : gx_ins 63 117 = some (false, .iastore, 0) := rfl
theorem gi63_118 : gx_ins 63 118 = some (false, .iinc 2 1, 0) := rfl
theorem gi63_121 : gx_ins 63 121 = some (false, .iinc 4 1, 0) := rfl
theorem gi63_124 : gx_ins 63 124 = some (false, .goto (-54), 70) := rfl
theorem gi63_127 : gx_ins 63 127 = some (false, .goto (-85), 42) := rfl
theorem gi63_130 : gx_ins 63 130 = some (false, .aload_n 0, 0) := rfl
theorem gi63_131 : gx_ins 63 131 = some (false, .getfield 44, 0) := rfl
theorem gi63_134 : gx_ins 63 134 = some (false, .bipush 23, 0) := rfl
theorem gi63_136 : gx_ins 63 136 = some (false, .iaload, 0) := rfl
theorem gi63_137 : gx_ins 63 137 = some (false, .ifCond .lt 7, 144) := rfl
theorem gi63_140 : gx_ins 63 140 = some (false, .iconst 1, 0) := rfl
theorem gi63_141 : gx_ins 63 141 = some (false, .goto 4, 145) := rfl
theorem gi63_144 : gx_ins 63 144 = some (false, .iconst 0, 0) := rfl
theorem gi63_145 : gx_ins 63 145 = some (false, .ireturn, 0) := rfl
theorem gi64_0 : gx_ins 64 0 = some (false, .aload_n 0, 0) := rfl
theorem gi64_1 : gx_ins 64 1 = some (false, .iload_n 1, 0) := rfl
theorem gi64_2 : gx_ins 64 2 = some (false, .iload_n 2, 0) := rfl
theorem gi64_3 : gx_ins 64 3 = some (false, .invokevirtual 95, 0) := rfl
theorem gi64_6 : gx_ins 64 6 = some (false, .iconst 0, 0) := rfl
theorem gi64_7 : gx_ins 64 7 = some (false, .istore_n 3, 0) := rfl
theorem gi64_8 : gx_ins 64 8 = some (true, .aload_n 0, 0) := rfl
theorem gi64_9 : gx_ins 64 9 = some (false, .invokevirtual 99, 0) := rfl
theorem gi64_12 : gx_ins 64 12 = some (false, .ifCond .eq 155, 167) := rfl
theorem gi64_15 : gx_ins 64 15 = some (false, .ldc 94, 0) := rfl
theorem gi64_17 : gx_ins 64 17 = some (false, .istore 4, 0) := rfl
theorem gi64_19 : gx_ins 64 19 = some (false, .bipush 23, 0) := rfl
theorem gi64_21 : gx_ins 64 21 = some (false, .istore 5, 0) := rfl
theorem gi64_23 : gx_ins 64 23 = some (true, .iload 5, 0) := rfl
theorem gi64_25 : gx_ins 64 25 = some (false, .bipush 22, 0) := rfl
theorem gi64_27 : gx_ins 64 27 = some (false, .if_icmp .eq 63, 90) := rfl
theorem gi64_30 : gx_ins 64 30 = some (false, .aload_n 0, 0) := rfl
theorem gi64_31 : gx_ins 64 31 = some (false, .getfield 41, 0) := rfl
theorem gi64_34 : gx_ins 64 34 = some (false, .bipush 24, 0) := rfl
theorem gi64_36 : gx_ins 64 36 = some (false, .aload_n 0, 0) := rfl
theorem gi64_37 : gx_ins 64 37 = some (false, .getfield 44, 0) := rfl
theorem gi64_40 : gx_ins 64 40 = some (false, .iload 5, 0) := rfl
theorem gi64_42 : gx_ins 64 42 = some (false, .iaload, 0) := rfl
theorem gi64_43 : gx_ins 64 43 = some (false, .imul, 0) := rfl
theorem gi64_44 : gx_ins 64 44 = some (false, .iload 5, 0) := rfl
theorem gi64_46 : gx_ins 64 46 = some (false, .iadd, 0) := rfl
theorem gi64_47 : gx_ins 64 47 = some (false, .iaload, 0) := rfl
theorem gi64_48 : gx_ins 64 48 = some (false, .iload 4, 0) := rfl
theorem gi64_50 : gx_ins 64 50 = some (false, .if_icmp .ge 24, 74) := rfl
theorem gi64_53 : gx_ins 64 53 = some (false, .aload_n 0, 0) := rfl
theorem gi64_54 : gx_ins 64 54 = some (false, .getfield 41, 0) := rfl
theorem gi64_57 : gx_ins 64 57 = some (false, .bipush 24, 0) := rfl
theorem gi64_59 : gx_ins 64 59 = some (false, .aload_n 0, 0) := rfl
theorem gi64_60 : gx_ins 64 60 = some (false, .getfield 44, 0) := rfl
theorem gi64_63 : gx_ins 64 63 = some (false, .iload 5, 0) := rfl
theorem gi64_65 : gx_ins 64 65 = some (false, .iaload, 0) := rfl
theorem gi64_66 : gx_ins 64 66 = some (false, .imul, 0) := rfl
theorem gi64_67 : gx_ins 64 67 = some (false, .iload 5, 0) := rfl
theorem gi64_69 : gx_ins 64 69 = some (false, .iadd, 0) := rfl
theorem gi64_70 : gx_ins 64 70 = some (false, .iaload, 0) := rfl
theorem gi64_71 : gx_ins 64 71 = some (false, .goto 5, 76) := rfl
theorem gi64_74 : gx_ins 64 74 = some (false, .iload 4, 0) := rfl
theorem gi64_76 : gx_ins 64 76 = some (false, .istore 4, 0) := rfl
theorem gi64_78 : gx_ins 64 78 = some (false, .aload_n 0, 0) := rfl
theorem gi64_79 : gx_ins 64 79 = some (false, .getfield 44, 0) := rfl
theorem gi64_82 : gx_ins 64 82 = some (false, .iload 5, 0) := rfl
theorem gi64_84 : gx_ins 64 84 = some (false, .iaload, 0) := rfl
theorem gi64_85 : gx_ins 64 85 = some (false, .istore 5, 0) := rfl
theorem gi64_87 : gx_ins 64 87 = some (false, .goto (-64), 23) := rfl
theorem gi64_90 : gx_ins 64 90 = some (false, .bipush 23, 0) := rfl
theorem gi64_92 : gx_ins 64 92 = some (false, .istore 5, 0) := rfl
theorem gi64_94 : gx_ins 64 94 = some (true, .iload 5, 0) := rfl
theorem gi64_96 : gx_ins 64 96 = some (false, .bipush 22, 0) := rfl
theorem gi64_98 : gx_ins 64 98 = some (false, .if_icmp .eq 61, 159) := rfl
theorem gi64_101 : gx_ins 64 101 = some (false, .aload_n 0, 0) := rfl
theorem gi64_102 : gx_ins 64 102 = some (false, .getfield 41, 0) := rfl
theorem gi64_105 : gx_ins 64 105 = some (false, .bipush 24, 0) := rfl
theorem gi64_107 : gx_ins 64 107 = some (false, .aload_n 0, 0) := rfl
theorem gi64_108 : gx_ins 64 108 = some (false, .getfield 44, 0) := rfl
theorem gi64_111 : gx_ins 64 111 = some (false, .iload 5, 0) := rfl
theorem gi64_113 : gx_ins 64 113 = some (false, .iaload, 0) := rfl
theorem gi64_114 : gx_ins 64 114 = some (false, .imul, 0) := rfl
theorem gi64_115 : gx_ins 64 115 = some (false, .iload 5, 0) := rfl
theorem gi64_117 : gx_ins 64 117 = some (false, .iadd, 0) := rfl
theorem gi64_118 : gx_ins 64 118 = some (false, .dup2, 0) := rfl
theorem gi64_119 : gx_ins 64 119 = some (false, .iaload, 0) := rfl
theorem gi64_120 : gx_ins 64 120 = some (false, .iload 4, 0) := rfl
theorem gi64_122 : gx_ins 64 122 = some (false, .isub, 0) := rfl
theorem gi64_123 : gx_ins 64 123 = some (false, .iastore, 0) := rfl
theorem gi64_124 : gx_ins 64 124 = some (false, .aload_n 0, 0) := rfl
theorem gi64_125 : gx_ins 64 125 = some (false, .getfield 41, 0) := rfl
theorem gi64_128 : gx_ins 64 128 = some (false, .bipush 24, 0) := rfl
theorem gi64_130 : gx_ins 64 130 = some (false, .iload 5, 0) := rfl
theorem gi64_132 : gx_ins 64 132 = some (false, .imul, 0) := rfl
theorem gi64_133 : gx_ins 64 133 = some (false, .aload_n 0, 0) := rfl
theorem gi64_134 : gx_ins 64 134 = some (false, .getfield 44, 0) := rfl
theorem gi64_137 : gx_ins 64 137 = some (false, .iload 5, 0) := rfl
theorem gi64_139 : gx_ins 64 139 = some (false, .iaload, 0) := rfl
theorem gi64_140 : gx_ins 64 140 = some (false, .iadd, 0) := rfl
theorem gi64_141 : gx_ins 64 141 = some (false, .dup2, 0) := rfl
theorem gi64_142 : gx_ins 64 142 = some (false, .iaload, 0) := rfl
theorem gi64_143 : gx_ins 64 143 = some (false, .iload 4, 0) := rfl
theorem gi64_145 : gx_ins 64 145 = some (false, .iadd, 0) := rfl
theorem gi64_146 : gx_ins 64 146 = some (false, .iastore, 0) := rfl
theorem gi64_147 : gx_ins 64 147 = some (false, .aload_n 0, 0) := rfl
theorem gi64_148 : gx_ins 64 148 = some (false, .getfield 44, 0) := rfl
theorem gi64_151 : gx_ins 64 151 = some (false, .iload 5, 0) := rfl
theorem gi64_153 : gx_ins 64 153 = some (false, .iaload, 0) := rfl
theorem gi64_154 : gx_ins 64 154 = some (false, .istore 5, 0) := rfl
theorem gi64_156 : gx_ins 64 156 = some (false, .goto (-62), 94) := rfl
theorem gi64_159 : gx_ins 64 159 = some (false, .iload_n 3, 0) := rfl
theorem gi64_160 : gx_ins 64 160 = some (false, .iload 4, 0) := rfl
theorem gi64_162 : gx_ins 64 162 = some (false, .iadd, 0) := rfl
theorem gi64_163 : gx_ins 64 163 = some (false, .istore_n 3, 0) := rfl
theorem gi64_164 : gx_ins 64 164 = some (false, .goto (-156), 8) := rfl
theorem gi64_167 : gx_ins 64 167 = some (false, .iload_n 3, 0) := rfl
theorem gi64_168 : gx_ins 64 168 = some (false, .aload_n 0, 0) := rfl
theorem gi64_169 : gx_ins 64 169 = some (false, .getfield 80, 0) := rfl
theorem gi64_172 : gx_ins 64 172 = some (false, .if_icmp .ne 7, 179) := rfl
theorem gi64_175 : gx_ins 64 175 = some (false, .iconst 1, 0) := rfl
theorem gi64_176 : gx_ins 64 176 = some (false, .goto 4, 180) := rfl
theorem gi64_179 : gx_ins 64 179 = some (false, .iconst 0, 0) := rfl
theorem gi64_180 : gx_ins 64 180 = some (false, .ireturn, 0) := rfl
theorem gi65_0 : gx_ins 65 0 = some (false, .iconst 0, 0) := rfl
theorem gi65_1 : gx_ins 65 1 = some (false, .istore_n 1, 0) := rfl
theorem gi65_2 : gx_ins 65 2 = some (true, .iload_n 1, 0) := rfl
theorem gi65_3 : gx_ins 65 3 = some (false, .aload_n 0, 0) := rfl
theorem gi65_4 : gx_ins 65 4 = some (false, .getfield 84, 0) := rfl
theorem gi65_7 : gx_ins 65 7 = some (false, .if_icmp .ge 33, 40) := rfl
theorem gi65_10 : gx_ins 65 10 = some (false, .aload_n 0, 0) := rfl
theorem gi65_11 : gx_ins 65 11 = some (false, .getfield 32, 0) := rfl
theorem gi65_14 : gx_ins 65 14 = some (false, .iload_n 1, 0) := rfl
theorem gi65_15 : gx_ins 65 15 = some (false, .aload_n 0, 0) := rfl
theorem gi65_16 : gx_ins 65 16 = some (false, .getfield 22, 0) := rfl
theorem gi65_19 : gx_ins 65 19 = some (false, .iload_n 1, 0) := rfl
theorem gi65_20 : gx_ins 65 20 = some (false, .iaload, 0) := rfl
theorem gi65_21 : gx_ins 65 21 = some (false, .iastore, 0) := rfl
theorem gi65_22 : gx_ins 65 22 = some (false, .aload_n 0, 0) := rfl
theorem gi65_23 : gx_ins 65 23 = some (false, .getfield 35, 0) := rfl
theorem gi65_26 : gx_ins 65 26 = some (false, .iload_n 1, 0) := rfl
theorem gi65_27 : gx_ins 65 27 = some (false, .aload_n 0, 0) := rfl
theorem gi65_28 : gx_ins 65 28 = some (false, .getfield 25, 0) := rfl
theorem gi65_31 : gx_ins 65 31 = some (false, .iload_n 1, 0) := rfl
theorem gi65_32 : gx_ins 65 32 = some (false, .iaload, 0) := rfl
theorem gi65_33 : gx_ins 65 33 = some (false, .iastore, 0) := rfl
theorem gi65_34 : gx_ins 65 34 = some (false, .iinc 1 1, 0) := rfl
theorem gi65_37 : gx_ins 65 37 = some (false, .goto (-35), 2) := rfl
theorem gi65_40 : gx_ins 65 40 = some (false, .iconst 0, 0) := rfl
theorem gi65_41 : gx_ins 65 41 = some (false, .istore_n 1, 0) := rfl
theorem gi65_42 : gx_ins 65 42 = some (true, .iload_n 1, 0) := rfl
theorem gi65_43 : gx_ins 65 43 = some (false, .aload_n 0, 0) := rfl
theorem gi65_44 : gx_ins 65 44 = some (false, .getfield 91, 0) := rfl
theorem gi65_47 : gx_ins 65 47 = some (false, .if_icmp .ge 21, 68) := rfl
theorem gi65_50 : gx_ins 65 50 = some (false, .aload_n 0, 0) := rfl
theorem gi65_51 : gx_ins 65 51 = some (false, .getfield 38, 0) := rfl
theorem gi65_54 : gx_ins 65 54 = some (false, .iload_n 1, 0) := rfl
theorem gi65_55 : gx_ins 65 55 = some (false, .aload_n 0, 0) := rfl
theorem gi65_56 : gx_ins 65 56 = some (false, .getfield 7, 0) := rfl
theorem gi65_59 : gx_ins 65 59 = some (false, .iload_n 1, 0) := rfl
theorem gi65_60 : gx_ins 65 60 = some (false, .iaload, 0) := rfl
theorem gi65_61 : gx_ins 65 61 = some (false, .iastore, 0) := rfl
theorem gi65_62 : gx_ins 65 62 = some (false, .iinc 1 1, 0) := rfl
theorem gi65_65 : gx_ins 65 65 = some (false, .goto (-23), 42) := rfl
theorem gi65_68 : gx_ins 65 68 = some (false, .return_, 0) := rfl
theorem gi66_0 : gx_ins 66 0 = some (false, .iconst 0, 0) := rfl
theorem gi66_1 : gx_ins 66 1 = some (false, .istore_n 1, 0) := rfl
theorem gi66_2 : gx_ins 66 2 = some (false, .ldc 94, 0) := rfl
theorem gi66_4 : gx_ins 66 4 = some (false, .istore_n 2, 0) := rfl
theorem gi66_5 : gx_ins 66 5 = some (true, .iload_n 2, 0) := rfl
theorem gi66_6 : gx_ins 66 6 = some (false, .iload_n 1, 0) := rfl
theorem gi66_7 : gx_ins 66 7 = some (false, .isub, 0) := rfl
theorem gi66_8 : gx_ins 66 8 = some (false, .iconst 1, 0) := rfl
theorem gi66_9 : gx_ins 66 9 = some (false, .if_icmp .le 29, 38) := rfl
theorem gi66_12 : gx_ins 66 12 = some (false, .iload_n 1, 0) := rfl
theorem gi66_13 : gx_ins 66 13 = some (false, .iload_n 2, 0) := rfl
theorem gi66_14 : gx_ins 66 14 = some (false, .iadd, 0) := rfl
theorem gi66_15 : gx_ins 66 15 = some (false, .iconst 2, 0) := rfl
theorem gi66_16 : gx_ins 66 16 = some (false, .idiv, 0) := rfl
theorem gi66_17 : gx_ins 66 17 = some (false, .istore_n 3, 0) := rfl
theorem gi66_18 : gx_ins 66 18 = some (false, .aload_n 0, 0) := rfl
theorem gi66_19 : gx_ins 66 19 = some (false, .iload_n 3, 0) := rfl
theorem gi66_20 : gx_ins 66 20 = some (false, .ldc 94, 0) := rfl
theorem gi66_22 : gx_ins 66 22 = some (false, .invokevirtual 103, 0) := rfl
theorem gi66_25 : gx_ins 66 25 = some (false, .ifCond .eq 8, 33) := rfl
theorem gi66_28 : gx_ins 66 28 = some (false, .iload_n 3, 0) := rfl
theorem gi66_29 : gx_ins 66 29 = some (false, .istore_n 1, 0) := rfl
theorem gi66_30 : gx_ins 66 30 = some (false, .goto 5, 35) := rfl
theorem gi66_33 : gx_ins 66 33 = some (false, .iload_n 3, 0) := rfl
theorem gi66_34 : gx_ins 66 34 = some (false, .istore_n 2, 0) := rfl
theorem gi66_35 : gx_ins 66 35 = some (false, .goto (-30), 5) := rfl
theorem gi66_38 : gx_ins 66 38 = some (false, .iload_n 1, 0) := rfl
theorem gi66_39 : gx_ins 66 39 = some (false, .ireturn, 0) := rfl
theorem gi67_0 : gx_ins 67 0 = some (false, .iconst (-1), 0) := rfl
theorem gi67_1 : gx_ins 67 1 = some (false, .istore_n 1, 0) := rfl
theorem gi67_2 : gx_ins 67 2 = some (false, .ldc 94, 0) := rfl
theorem gi67_4 : gx_ins 67 4 = some (false, .istore_n 2, 0) := rfl
theorem gi67_5 : gx_ins 67 5 = some (true, .iload_n 2, 0) := rfl
theorem gi67_6 : gx_ins 67 6 = some (false, .iload_n 1, 0) := rfl
theorem gi67_7 : gx_ins 67 7 = some (false, .isub, 0) := rfl
theorem gi67_8 : gx_ins 67 8 = some (false, .iconst 1, 0) := rfl
theorem gi67_9 : gx_ins 67 9 = some (false, .if_icmp .le 28, 37) := rfl
theorem gi67_12 : gx_ins 67 12 = some (false, .iload_n 1, 0) := rfl
theorem gi67_13 : gx_ins 67 13 = some (false, .iload_n 2, 0) := rfl
theorem gi67_14 : gx_ins 67 14 = some (false, .iadd, 0) := rfl
theorem gi67_15 : gx_ins 67 15 = some (false, .iconst 2, 0) := rfl
theorem gi67_16 : gx_ins 67 16 = some (false, .idiv, 0) := rfl
theorem gi67_17 : gx_ins 67 17 = some (false, .istore_n 3, 0) := rfl
theorem gi67_18 : gx_ins 67 18 = some (false, .aload_n 0, 0) := rfl
theorem gi67_19 : gx_ins 67 19 = some (false, .iconst 0, 0) := rfl
theorem gi67_20 : gx_ins 67 20 = some (false, .iload_n 3, 0) := rfl
theorem gi67_21 : gx_ins 67 21 = some (false, .invokevirtual 103, 0) := rfl
theorem gi67_24 : gx_ins 67 24 = some (false, .ifCond .eq 8, 32) := rfl
theorem gi67_27 : gx_ins 67 27 = some (false, .iload_n 3, 0) := rfl
theorem gi67_28 : gx_ins 67 28 = some (false, .istore_n 2, 0) := rfl
theorem gi67_29 : gx_ins 67 29 = some (false, .goto 5, 34) := rfl
theorem gi67_32 : gx_ins 67 32 = some (false, .iload_n 3, 0) := rfl
theorem gi67_33 : gx_ins 67 33 = some (false, .istore_n 1, 0) := rfl
theorem gi67_34 : gx_ins 67 34 = some (false, .goto (-29), 5) := rfl
theorem gi67_37 : gx_ins 67 37 = some (false, .iload_n 2, 0) := rfl
theorem gi67_38 : gx_ins 67 38 = some (false, .ireturn, 0) := rfl
theorem gi68_0 : gx_ins 68 0 = some (false, .aload_n 0, 0) := rfl
theorem gi68_1 : gx_ins 68 1 = some (false, .invokevirtual 107, 0) := rfl
theorem gi68_4 : gx_ins 68 4 = some (false, .aload_n 0, 0) := rfl
theorem gi68_5 : gx_ins 68 5 = some (false, .getfield 50, 0) := rfl
theorem gi68_8 : gx_ins 68 8 = some (false, .iload_n 1, 0) := rfl
theorem gi68_9 : gx_ins 68 9 = some (false, .iload_n 1, 0) := rfl
theorem gi68_10 : gx_ins 68 10 = some (false, .ifCond .ne 10, 20) := rfl
theorem gi68_13 : gx_ins 68 13 = some (false, .aload_n 0, 0) := rfl
theorem gi68_14 : gx_ins 68 14 = some (false, .invokevirtual 110, 0) := rfl
theorem gi68_17 : gx_ins 68 17 = some (false, .goto 7, 24) := rfl
theorem gi68_20 : gx_ins 68 20 = some (false, .aload_n 0, 0) := rfl
theorem gi68_21 : gx_ins 68 21 = some (false, .invokevirtual 114, 0) := rfl
theorem gi68_24 : gx_ins 68 24 = some (false, .iastore, 0) := rfl
theorem gi68_25 : gx_ins 68 25 = some (false, .iconst 0, 0) := rfl
theorem gi68_26 : gx_ins 68 26 = some (false, .istore_n 2, 0) := rfl
theorem gi68_27 : gx_ins 68 27 = some (true, .iload_n 2, 0) := rfl
theorem gi68_28 : gx_ins 68 28 = some (false, .aload_n 0, 0) := rfl
theorem gi68_29 : gx_ins 68 29 = some (false, .getfield 84, 0) := rfl
theorem gi68_32 : gx_ins 68 32 = some (false, .if_icmp .ge 123, 155) := rfl
theorem gi68_35 : gx_ins 68 35 = some (false, .aload_n 0, 0) := rfl
theorem gi68_36 : gx_ins 68 36 = some (false, .getfield 28, 0) := rfl
theorem gi68_39 : gx_ins 68 39 = some (false, .iload_n 2, 0) := rfl
theorem gi68_40 : gx_ins 68 40 = some (false, .baload, 0) := rfl
theorem gi68_41 : gx_ins 68 41 = some (false, .ifCond .ne 6, 47) := rfl
theorem gi68_44 : gx_ins 68 44 = some (false, .goto 105, 149) := rfl
theorem gi68_47 : gx_ins 68 47 = some (false, .aload_n 0, 0) := rfl
theorem gi68_48 : gx_ins 68 48 = some (false, .getfield 32, 0) := rfl
theorem gi68_51 : gx_ins 68 51 = some (false, .iload_n 2, 0) := rfl
theorem gi68_52 : gx_ins 68 52 = some (false, .iaload, 0) := rfl
theorem gi68_53 : gx_ins 68 53 = some (false, .iconst 1, 0) := rfl
theorem gi68_54 : gx_ins 68 54 = some (false, .isub, 0) := rfl
theorem gi68_55 : gx_ins 68 55 = some (false, .istore_n 3, 0) := rfl
theorem gi68_56 : gx_ins 68 56 = some (false, .aload_n 0, 0) := rfl
theorem gi68_57 : gx_ins 68 57 = some (false, .getfield 35, 0) := rfl
theorem gi68_60 : gx_ins 68 60 = some (false, .iload_n 2, 0) := rfl
theorem gi68_61 : gx_ins 68 61 = some (false, .iaload, 0) := rfl
theorem gi68_62 : gx_ins 68 62 = some (false, .istore 4, 0) := rfl
theorem gi68_64 : gx_ins 68 64 = some (true, .iload 4, 0) := rfl
theorem gi68_66 : gx_ins 68 66 = some (false, .iload_n 3, 0) := rfl
theorem gi68_67 : gx_ins 68 67 = some (false, .isub, 0) := rfl
theorem gi68_68 : gx_ins 68 68 = some (false, .iconst 1, 0) := rfl
theorem gi68_69 : gx_ins 68 69 = some (false, .if_icmp .le 51, 120) := rfl
theorem gi68_72 : gx_ins 68 72 = some (false, .iload_n 3, 0) := rfl
theorem gi68_73 : gx_ins 68 73 = some (false, .iload 4, 0) := rfl
theorem gi68_75 : gx_ins 68 75 = some (false, .iadd, 0) := rfl
theorem gi68_76 : gx_ins 68 76 = some (false, .iconst 2, 0) := rfl
theorem gi68_77 : gx_ins 68 77 = some (false, .idiv, 0) := rfl
theorem gi68_78 : gx_ins 68 78 = some (false, .istore 5, 0) := rfl
theorem gi68_80 : gx_ins 68 80 = some (false, .aload_n 0, 0) := rfl
theorem gi68_81 : gx_ins 68 81 = some (false, .getfield 35, 0) := rfl
theorem gi68_84 : gx_ins 68 84 = some (false, .iload_n 2, 0) := rfl
theorem gi68_85 : gx_ins 68 85 = some (false, .iload 5, 0) := rfl
theorem gi68_87 : gx_ins 68 87 = some (false, .iastore, 0) := rfl
theorem gi68_88 : gx_ins 68 88 = some (false, .aload_n 0, 0) := rfl
theorem gi68_89 : gx_ins 68 89 = some (false, .aload_n 0, 0) := rfl
theorem gi68_90 : gx_ins 68 90 = some (false, .getfield 50, 0) := rfl
theorem gi68_93 : gx_ins 68 93 = some (false, .iload_n 1, 0) := rfl
theorem gi68_94 : gx_ins 68 94 = some (false, .iaload, 0) := rfl
theorem gi68_95 : gx_ins 68 95 = some (false, .aload_n 0, 0) := rfl
theorem gi68_96 : gx_ins 68 96 = some (false, .getfield 50, 0) := rfl
theorem gi68_99 : gx_ins 68 99 = some (false, .iload_n 1, 0) := rfl
theorem gi68_100 : gx_ins 68 100 = some (false, .iaload, 0) := rfl
theorem gi68_101 : gx_ins 68 101 = some (false, .invokevirtual 103, 0) := rfl
theorem gi68_104 : gx_ins 68 104 = some (false, .ifCond .eq 10, 114) := rfl
theorem gi68_107 : gx_ins 68 107 = some (false, .iload 5, 0) := rfl
theorem gi68_109 : gx_ins 68 109 = some (false, .istore 4, 0) := rfl
theorem gi68_111 : gx_ins 68 111 = some (false, .goto 6, 117) := rfl
theorem gi68_114 : gx_ins 68 114 = some (false, .iload 5, 0) := rfl
theorem gi68_116 : gx_ins 68 116 = some (false, .istore_n 3, 0) := rfl
theorem gi68_117 : gx_ins 68 117 = some (false, .goto (-53), 64) := rfl
theorem gi68_120 : gx_ins 68 120 = some (false, .aload_n 0, 0) := rfl
theorem gi68_121 : gx_ins 68 121 = some (false, .getfield 32, 0) := rfl
theorem gi68_124 : gx_ins 68 124 = some (false, .iload_n 2, 0) := rfl
theorem gi68_125 : gx_ins 68 125 = some (false, .iload 4, 0) := rfl
theorem gi68_127 : gx_ins 68 127 = some (false, .iastore, 0) := rfl
theorem gi68_128 : gx_ins 68 128 = some (false, .aload_n 0, 0) := rfl
theorem gi68_129 : gx_ins 68 129 = some (false, .getfield 35, 0) := rfl
theorem gi68_132 : gx_ins 68 132 = some (false, .iload_n 2, 0) := rfl
theorem gi68_133 : gx_ins 68 133 = some (false, .iload 4, 0) := rfl
theorem gi68_135 : gx_ins 68 135 = some (false, .iastore, 0) := rfl
theorem gi68_136 : gx_ins 68 136 = some (false, .aload_n 0, 0) := rfl
theorem gi68_137 : gx_ins 68 137 = some (false, .getfield 53, 0) := rfl
theorem gi68_140 : gx_ins 68 140 = some (false, .bipush 40, 0) := rfl
theorem gi68_142 : gx_ins 68 142 = some (false, .iload_n 1, 0) := rfl
theorem gi68_143 : gx_ins 68 143 = some (false, .imul, 0) := rfl
theorem gi68_144 : gx_ins 68 144 = some (false, .iload_n 2, 0) := rfl
theorem gi68_145 : gx_ins 68 145 = some (false, .iadd, 0) := rfl
theorem gi68_146 : gx_ins 68 146 = some (false, .iload 4, 0) := rfl
theorem gi68_148 : gx_ins 68 148 = some (false, .iastore, 0) := rfl
theorem gi68_149 : gx_ins 68 149 = some (false, .iinc 2 1, 0) := rfl
theorem gi68_152 : gx_ins 68 152 = some (false, .goto (-125), 27) := rfl
theorem gi68_155 : gx_ins 68 155 = some (false, .return_, 0) := rfl
theorem gi69_0 : gx_ins 69 0 = some (false, .aload_n 0, 0) := rfl
theorem gi69_1 : gx_ins 69 1 = some (false, .invokevirtual 107, 0) := rfl
theorem gi69_4 : gx_ins 69 4 = some (false, .aload_n 0, 0) := rfl
theorem gi69_5 : gx_ins 69 5 = some (false, .getfield 84, 0) := rfl
theorem gi69_8 : gx_ins 69 8 = some (false, .iconst 1, 0) := rfl
theorem gi69_9 : gx_ins 69 9 = some (false, .isub, 0) := rfl
theorem gi69_10 : gx_ins 69 10 = some (false, .istore_n 1, 0) := rfl
theorem gi69_11 : gx_ins 69 11 = some (true, .iload_n 1, 0) := rfl
theorem gi69_12 : gx_ins 69 12 = some (false, .ifCond .lt 73, 85) := rfl
theorem gi69_15 : gx_ins 69 15 = some (false, .aload_n 0, 0) := rfl
theorem gi69_16 : gx_ins 69 16 = some (false, .getfield 56, 0) := rfl
theorem gi69_19 : gx_ins 69 19 = some (false, .iload_n 1, 0) := rfl
theorem gi69_20 : gx_ins 69 20 = some (false, .iconst 0, 0) := rfl
theorem gi69_21 : gx_ins 69 21 = some (false, .bastore, 0) := rfl
theorem gi69_22 : gx_ins 69 22 = some (false, .aload_n 0, 0) := rfl
theorem gi69_23 : gx_ins 69 23 = some (false, .getfield 28, 0) := rfl
theorem gi69_26 : gx_ins 69 26 = some (false, .iload_n 1, 0) := rfl
theorem gi69_27 : gx_ins 69 27 = some (false, .baload, 0) := rfl
theorem gi69_28 : gx_ins 69 28 = some (false, .ifCond .eq 51, 79) := rfl
theorem gi69_31 : gx_ins 69 31 = some (false, .aload_n 0, 0) := rfl
theorem gi69_32 : gx_ins 69 32 = some (false, .getfield 22, 0) := rfl
theorem gi69_35 : gx_ins 69 35 = some (false, .iload_n 1, 0) := rfl
theorem gi69_36 : gx_ins 69 36 = some (false, .iaload, 0) := rfl
theorem gi69_37 : gx_ins 69 37 = some (false, .ifCond .ne 6, 43) := rfl
theorem gi69_40 : gx_ins 69 40 = some (false, .goto 39, 79) := rfl
theorem gi69_43 : gx_ins 69 43 = some (false, .aload_n 0, 0) := rfl
theorem gi69_44 : gx_ins 69 44 = some (false, .getfield 32, 0) := rfl
theorem gi69_47 : gx_ins 69 47 = some (false, .iload_n 1, 0) := rfl
theorem gi69_48 : gx_ins 69 48 = some (false, .iconst 0, 0) := rfl
theorem gi69_49 : gx_ins 69 49 = some (false, .iastore, 0) := rfl
theorem gi69_50 : gx_ins 69 50 = some (false, .aload_n 0, 0) := rfl
theorem gi69_51 : gx_ins 69 51 = some (false, .iconst 0, 0) := rfl
theorem gi69_52 : gx_ins 69 52 = some (false, .ldc 94, 0) := rfl
theorem gi69_54 : gx_ins 69 54 = some (false, .invokevirtual 103, 0) := rfl
theorem gi69_57 : gx_ins 69 57 = some (false, .ifCond .eq 22, 79) := rfl
theorem gi69_60 : gx_ins 69 60 = some (false, .aload_n 0, 0) := rfl
theorem gi69_61 : gx_ins 69 61 = some (false, .getfield 32, 0) := rfl
theorem gi69_64 : gx_ins 69 64 = some (false, .iload_n 1, 0) := rfl
theorem gi69_65 : gx_ins 69 65 = some (false, .aload_n 0, 0) := rfl
theorem gi69_66 : gx_ins 69 66 = some (false, .getfield 22, 0) := rfl
theorem gi69_69 : gx_ins 69 69 = some (false, .iload_n 1, 0) := rfl
theorem gi69_70 : gx_ins 69 70 = some (false, .iaload, 0) := rfl
theorem gi69_71 : gx_ins 69 71 = some (false, .iastore, 0) := rfl
theorem gi69_72 : gx_ins 69 72 = some (false, .aload_n 0, 0) := rfl
theorem gi69_73 : gx_ins 69 73 = some (false, .getfield 56, 0) := rfl
theorem gi69_76 : gx_ins 69 76 = some (false, .iload_n 1, 0) := rfl
theorem gi69_77 : gx_ins 69 77 = some (false, .iconst 1, 0) := rfl
theorem gi69_78 : gx_ins 69 78 = some (false, .bastore, 0) := rfl
theorem gi69_79 : gx_ins 69 79 = some (false, .iinc 1 (-1), 0) := rfl
theorem gi69_82 : gx_ins 69 82 = some (false, .goto (-71), 11) := rfl
theorem gi69_85 : gx_ins 69 85 = some (false, .return_, 0) := rfl
theorem gi70_0 : gx_ins 70 0 = some (false, .aload_n 0, 0) := rfl
theorem gi70_1 : gx_ins 70 1 = some (false, .getfield 117, 0) := rfl
theorem gi70_4 : gx_ins 70 4 = some (false, .ifCond .eq 4, 8) := rfl
theorem gi70_7 : gx_ins 70 7 = some (false, .return_, 0) := rfl
theorem gi70_8 : gx_ins 70 8 = some (false, .aload_n 0, 0) := rfl
theorem gi70_9 : gx_ins 70 9 = some (false, .iconst 1, 0) := rfl
theorem gi70_10 : gx_ins 70 10 = some (false, .putfield 117, 0) := rfl
theorem gi70_13 : gx_ins 70 13 = some (false, .aload_n 0, 0) := rfl
theorem gi70_14 : gx_ins 70 14 = some (false, .invokevirtual 107, 0) := rfl
theorem gi70_17 : gx_ins 70 17 = some (false, .aload_n 0, 0) := rfl
theorem gi70_18 : gx_ins 70 18 = some (false, .aload_n 0, 0) := rfl
theorem gi70_19 : gx_ins 70 19 = some (false, .iconst 0, 0) := rfl
theorem gi70_20 : gx_ins 70 20 = some (false, .ldc 94, 0) := rfl
theorem gi70_22 : gx_ins 70 22 = some (false, .invokevirtual 103, 0) := rfl
theorem gi70_25 : gx_ins 70 25 = some (false, .putfield 121, 0) := rfl
theorem gi70_28 : gx_ins 70 28 = some (false, .aload_n 0, 0) := rfl
theorem gi70_29 : gx_ins 70 29 = some (false, .getfield 121, 0) := rfl
theorem gi70_32 : gx_ins 70 32 = some (false, .ifCond .eq 20, 52) := rfl
theorem gi70_35 : gx_ins 70 35 = some (false, .aload_n 0, 0) := rfl
theorem gi70_36 : gx_ins 70 36 = some (false, .iconst 0, 0) := rfl
theorem gi70_37 : gx_ins 70 37 = some (false, .invokevirtual 124, 0) := rfl
theorem gi70_40 : gx_ins 70 40 = some (false, .aload_n 0, 0) := rfl
theorem gi70_41 : gx_ins 70 41 = some (false, .iconst 1, 0) := rfl
theorem gi70_42 : gx_ins 70 42 = some (false, .invokevirtual 124, 0) := rfl
theorem gi70_45 : gx_ins 70 45 = some (false, .aload_n 0, 0) := rfl
theorem gi70_46 : gx_ins 70 46 = some (false, .invokevirtual 128, 0) := rfl
theorem gi70_49 : gx_ins 70 49 = some (false, .goto 7, 56) := rfl
theorem gi70_52 : gx_ins 70 52 = some (false, .aload_n 0, 0) := rfl
theorem gi70_53 : gx_ins 70 53 = some (false, .invokevirtual 131, 0) := rfl
theorem gi70_56 : gx_ins 70 56 = some (false, .return_, 0) := rfl
theorem gi71_0 : gx_ins 71 0 = some (false, .iconst 0, 0) := rfl
theorem gi71_1 : gx_ins 71 1 = some (false, .istore_n 3, 0) := rfl
theorem gi71_2 : gx_ins 71 2 = some (false, .iconst 0, 0) := rfl
theorem gi71_3 : gx_ins 71 3 = some (false, .istore 4, 0) := rfl
theorem gi71_5 : gx_ins 71 5 = some (true, .iload 4, 0) := rfl
theorem gi71_7 : gx_ins 71 7 = some (false, .aload_n 0, 0) := rfl
theorem gi71_8 : gx_ins 71 8 = some (false, .getfield 84, 0) := rfl
theorem gi71_11 : gx_ins 71 11 = some (false, .if_icmp .ge 49, 60) := rfl
theorem gi71_14 : gx_ins 71 14 = some (false, .iload_n 3, 0) := rfl
theorem gi71_15 : gx_ins 71 15 = some (false, .aload_n 0, 0) := rfl
theorem gi71_16 : gx_ins 71 16 = some (false, .getfield 28, 0) := rfl
theorem gi71_19 : gx_ins 71 19 = some (false, .iload 4, 0) := rfl
theorem gi71_21 : gx_ins 71 21 = some (false, .baload, 0) := rfl
theorem gi71_22 : gx_ins 71 22 = some (false, .ifCond .eq 29, 51) := rfl
theorem gi71_25 : gx_ins 71 25 = some (false, .aload_n 0, 0) := rfl
theorem gi71_26 : gx_ins 71 26 = some (false, .getfield 19, 0) := rfl
theorem gi71_29 : gx_ins 71 29 = some (false, .iload 4, 0) := rfl
theorem gi71_31 : gx_ins 71 31 = some (false, .iaload, 0) := rfl
theorem gi71_32 : gx_ins 71 32 = some (false, .iload_n 2, 0) := rfl
theorem gi71_33 : gx_ins 71 33 = some (false, .if_icmp .ne 18, 51) := rfl
theorem gi71_36 : gx_ins 71 36 = some (false, .aload_n 0, 0) := rfl
theorem gi71_37 : gx_ins 71 37 = some (false, .getfield 53, 0) := rfl
theorem gi71_40 : gx_ins 71 40 = some (false, .bipush 40, 0) := rfl
theorem gi71_42 : gx_ins 71 42 = some (false, .iload_n 1, 0) := rfl
theorem gi71_43 : gx_ins 71 43 = some (false, .imul, 0) := rfl
theorem gi71_44 : gx_ins 71 44 = some (false, .iload 4, 0) := rfl
theorem gi71_46 : gx_ins 71 46 = some (false, .iadd, 0) := rfl
theorem gi71_47 : gx_ins 71 47 = some (false, .iaload, 0) := rfl
theorem gi71_48 : gx_ins 71 48 = some (false, .goto 4, 52) := rfl
theorem gi71_51 : gx_ins 71 51 = some (false, .iconst 0, 0) := rfl
theorem gi71_52 : gx_ins 71 52 = some (false, .iadd, 0) := rfl
theorem gi71_53 : gx_ins 71 53 = some (false, .istore_n 3, 0) := rfl
theorem gi71_54 : gx_ins 71 54 = some (false, .iinc 4 1, 0) := rfl
theorem gi71_57 : gx_ins 71 57 = some (false, .goto (-52), 5) := rfl
theorem gi71_60 : gx_ins 71 60 = some (false, .iload_n 3, 0) := rfl
theorem gi71_61 : gx_ins 71 61 = some (false, .ireturn, 0) := rfl
theorem gi72_0 : gx_ins 72 0 = some (false, .iconst 0, 0) := rfl
theorem gi72_1 : gx_ins 72 1 = some (false, .istore_n 3, 0) := rfl
theorem gi72_2 : gx_ins 72 2 = some (false, .iconst 0, 0) := rfl
theorem gi72_3 : gx_ins 72 3 = some (false, .istore 4, 0) := rfl
theorem gi72_5 : gx_ins 72 5 = some (true, .iload 4, 0) := rfl
theorem gi72_7 : gx_ins 72 7 = some (false, .aload_n 0, 0) := rfl
theorem gi72_8 : gx_ins 72 8 = some (false, .getfield 84, 0) := rfl
theorem gi72_11 : gx_ins 72 11 = some (false, .if_icmp .ge 49, 60) := rfl
theorem gi72_14 : gx_ins 72 14 = some (false, .iload_n 3, 0) := rfl
theorem gi72_15 : gx_ins 72 15 = some (false, .aload_n 0, 0) := rfl
theorem gi72_16 : gx_ins 72 16 = some (false, .getfield 28, 0) := rfl
theorem gi72_19 : gx_ins 72 19 = some (false, .iload 4, 0) := rfl
theorem gi72_21 : gx_ins 72 21 = some (false, .baload, 0) := rfl
theorem gi72_22 : gx_ins 72 22 = some (false, .ifCond .eq 29, 51) := rfl
theorem gi72_25 : gx_ins 72 25 = some (false, .aload_n 0, 0) := rfl
theorem gi72_26 : gx_ins 72 26 = some (false, .getfield 16, 0) := rfl
theorem gi72_29 : gx_ins 72 29 = some (false, .iload 4, 0) := rfl
theorem gi72_31 : gx_ins 72 31 = some (false, .iaload, 0) := rfl
theorem gi72_32 : gx_ins 72 32 = some (false, .iload_n 2, 0) := rfl
theorem gi72_33 : gx_ins 72 33 = some (false, .if_icmp .ne 18, 51) := rfl
theorem gi72_36 : gx_ins 72 36 = some (false, .aload_n 0, 0) := rfl
theorem gi72_37 : gx_ins 72 37 = some (false, .getfield 53, 0) := rfl
theorem gi72_40 : gx_ins 72 40 = some (false, .bipush 40, 0) := rfl
theorem gi72_42 : gx_ins 72 42 = some (false, .iload_n 1, 0) := rfl
theorem gi72_43 : gx_ins 72 43 = some (false, .imul, 0) := rfl
theorem gi72_44 : gx_ins 72 44 = some (false, .iload 4, 0) := rfl
theorem gi72_46 : gx_ins 72 46 = some (false, .iadd, 0) := rfl
theorem gi72_47 : gx_ins 72 47 = some (false, .iaload, 0) := rfl
theorem gi72_48 : gx_ins 72 48 = some (false, .goto 4, 52) := rfl
theorem gi72_51 : gx_ins 72 51 = some (false, .iconst 0, 0) := rfl
theorem gi72_52 : gx_ins 72 52 = some (false, .iadd, 0) := rfl
theorem gi72_53 : gx_ins 72 53 = some (false, .istore_n 3, 0) := rfl
theorem gi72_54 : gx_ins 72 54 = some (false, .iinc 4 1, 0) := rfl
theorem gi72_57 : gx_ins 72 57 = some (false, .goto (-52), 5) := rfl
theorem gi72_60 : gx_ins 72 60 = some (false, .iload_n 3, 0) := rfl
theorem gi72_61 : gx_ins 72 61 = some (false, .ireturn, 0) := rfl
theorem gi73_0 : gx_ins 73 0 = some (false, .iconst 0, 0) := rfl
theorem gi73_1 : gx_ins 73 1 = some (false, .istore_n 2, 0) := rfl
theorem gi73_2 : gx_ins 73 2 = some (true, .aload_n 0, 0) := rfl
theorem gi73_3 : gx_ins 73 3 = some (false, .getfield 28, 0) := rfl
theorem gi73_6 : gx_ins 73 6 = some (false, .iload_n 2, 0) := rfl
theorem gi73_7 : gx_ins 73 7 = some (false, .baload, 0) := rfl
theorem gi73_8 : gx_ins 73 8 = some (false, .ifCond .eq 22, 30) := rfl
theorem gi73_11 : gx_ins 73 11 = some (false, .aload_n 0, 0) := rfl
theorem gi73_12 : gx_ins 73 12 = some (false, .getfield 16, 0) := rfl
theorem gi73_15 : gx_ins 73 15 = some (false, .iload_n 2, 0) := rfl
theorem gi73_16 : gx_ins 73 16 = some (false, .iaload, 0) := rfl
theorem gi73_17 : gx_ins 73 17 = some (false, .iload_n 1, 0) := rfl
theorem gi73_18 : gx_ins 73 18 = some (false, .if_icmp .ne 12, 30) := rfl
theorem gi73_21 : gx_ins 73 21 = some (false, .aload_n 0, 0) := rfl
theorem gi73_22 : gx_ins 73 22 = some (false, .getfield 68, 0) := rfl
theorem gi73_25 : gx_ins 73 25 = some (false, .iload_n 2, 0) := rfl
theorem gi73_26 : gx_ins 73 26 = some (false, .iaload, 0) := rfl
theorem gi73_27 : gx_ins 73 27 = some (false, .ifCond .ne 9, 36) := rfl
theorem gi73_30 : gx_ins 73 30 = some (false, .iinc 2 1, 0) := rfl
theorem gi73_33 : gx_ins 73 33 = some (false, .goto (-31), 2) := rfl
theorem gi73_36 : gx_ins 73 36 = some (false, .iload_n 2, 0) := rfl
theorem gi73_37 : gx_ins 73 37 = some (false, .ireturn, 0) := rfl
theorem gi74_0 : gx_ins 74 0 = some (false, .ldc 94, 0) := rfl
theorem gi74_2 : gx_ins 74 2 = some (false, .istore_n 3, 0) := rfl
theorem gi74_3 : gx_ins 74 3 = some (false, .iload_n 1, 0) := rfl
theorem gi74_4 : gx_ins 74 4 = some (false, .istore 4, 0) := rfl
theorem gi74_6 : gx_ins 74 6 = some (true, .iload 4, 0) := rfl
theorem gi74_8 : gx_ins 74 8 = some (false, .iload_n 2, 0) := rfl
theorem gi74_9 : gx_ins 74 9 = some (false, .if_icmp .ge 42, 51) := rfl
theorem gi74_12 : gx_ins 74 12 = some (false, .aload_n 0, 0) := rfl
theorem gi74_13 : gx_ins 74 13 = some (false, .getfield 68, 0) := rfl
theorem gi74_16 : gx_ins 74 16 = some (false, .aload_n 0, 0) := rfl
theorem gi74_17 : gx_ins 74 17 = some (false, .getfield 74, 0) := rfl
theorem gi74_20 : gx_ins 74 20 = some (false, .iload 4, 0) := rfl
theorem gi74_22 : gx_ins 74 22 = some (false, .iaload, 0) := rfl
theorem gi74_23 : gx_ins 74 23 = some (false, .iaload, 0) := rfl
theorem gi74_24 : gx_ins 74 24 = some (false, .iload_n 3, 0) := rfl
theorem gi74_25 : gx_ins 74 25 = some (false, .if_icmp .ge 18, 43) := rfl
theorem gi74_28 : gx_ins 74 28 = some (false, .aload_n 0, 0) := rfl
theorem gi74_29 : gx_ins 74 29 = some (false, .getfield 68, 0) := rfl
theorem gi74_32 : gx_ins 74 32 = some (false, .aload_n 0, 0) := rfl
theorem gi74_33 : gx_ins 74 33 = some (false, .getfield 74, 0) := rfl
theorem gi74_36 : gx_ins 74 36 = some (false, .iload 4, 0) := rfl
theorem gi74_38 : gx_ins 74 38 = some (false, .iaload, 0) := rfl
theorem gi74_39 : gx_ins 74 39 = some (false, .iaload, 0) := rfl
theorem gi74_40 : gx_ins 74 40 = some (false, .goto 4, 44) := rfl
theorem gi74_43 : gx_ins 74 43 = some (false, .iload_n 3, 0) := rfl
theorem gi74_44 : gx_ins 74 44 = some (false, .istore_n 3, 0) := rfl
theorem gi74_45 : gx_ins 74 45 = some (false, .iinc 4 1, 0) := rfl
theorem gi74_48 : gx_ins 74 48 = some (false, .goto (-42), 6) := rfl
theorem gi74_51 : gx_ins 74 51 = some (false, .iload_n 3, 0) := rfl
theorem gi74_52 : gx_ins 74 52 = some (false, .ireturn, 0) := rfl
theorem gi75_0 : gx_ins 75 0 = some (false, .iload_n 1, 0) := rfl
theorem gi75_1 : gx_ins 75 1 = some (false, .istore 4, 0) := rfl
theorem gi75_3 : gx_ins 75 3 = some (true, .iload 4, 0) := rfl
theorem gi75_5 : gx_ins 75 5 = some (false, .iload_n 2, 0) := rfl
theorem gi75_6 : gx_ins 75 6 = some (false, .if_icmp .ge 25, 31) := rfl
theorem gi75_9 : gx_ins 75 9 = some (false, .aload_n 0, 0) := rfl
theorem gi75_10 : gx_ins 75 10 = some (false, .getfield 68, 0) := rfl
theorem gi75_13 : gx_ins 75 13 = some (false, .aload_n 0, 0) := rfl
theorem gi75_14 : gx_ins 75 14 = some (false, .getfield 74, 0) := rfl
theorem gi75_17 : gx_ins 75 17 = some (false, .iload 4, 0) := rfl
theorem gi75_19 : gx_ins 75 19 = some (false, .iaload, 0) := rfl
theorem gi75_20 : gx_ins 75 20 = some (false, .dup2, 0) := rfl
theorem gi75_21 : gx_ins 75 21 = some (false, .iaload, 0) := rfl
theorem gi75_22 : gx_ins 75 22 = some (false, .iload_n 3, 0) := rfl
theorem gi75_23 : gx_ins 75 23 = some (false, .isub, 0) := rfl
theorem gi75_24 : gx_ins 75 24 = some (false, .iastore, 0) := rfl
theorem gi75_25 : gx_ins 75 25 = some (false, .iinc 4 1, 0) := rfl
theorem gi75_28 : gx_ins 75 28 = some (false, .goto (-25), 3) := rfl
theorem gi75_31 : gx_ins 75 31 = some (false, .return_, 0) := rfl
theorem gi76_0 : gx_ins 76 0 = some (false, .aload_n 0, 0) := rfl
theorem gi76_1 : gx_ins 76 1 = some (false, .iconst 0, 0) := rfl
theorem gi76_2 : gx_ins 76 2 = some (false, .putfield 134, 0) := rfl
theorem gi76_5 : gx_ins 76 5 = some (false, .iconst 0, 0) := rfl
theorem gi76_6 : gx_ins 76 6 = some (false, .istore_n 1, 0) := rfl
theorem gi76_7 : gx_ins 76 7 = some (true, .iload_n 1, 0) := rfl
theorem gi76_8 : gx_ins 76 8 = some (false, .aload_n 0, 0) := rfl
theorem gi76_9 : gx_ins 76 9 = some (false, .getfield 84, 0) := rfl
theorem gi76_12 : gx_ins 76 12 = some (false, .if_icmp .ge 34, 46) := rfl
theorem gi76_15 : gx_ins 76 15 = some (false, .aload_n 0, 0) := rfl
theorem gi76_16 : gx_ins 76 16 = some (false, .getfield 68, 0) := rfl
theorem gi76_19 : gx_ins 76 19 = some (false, .iload_n 1, 0) := rfl
theorem gi76_20 : gx_ins 76 20 = some (false, .aload_n 0, 0) := rfl
theorem gi76_21 : gx_ins 76 21 = some (false, .getfield 28, 0) := rfl
theorem gi76_24 : gx_ins 76 24 = some (false, .iload_n 1, 0) := rfl
theorem gi76_25 : gx_ins 76 25 = some (false, .baload, 0) := rfl
theorem gi76_26 : gx_ins 76 26 = some (false, .ifCond .eq 12, 38) := rfl
theorem gi76_29 : gx_ins 76 29 = some (false, .aload_n 0, 0) := rfl
theorem gi76_30 : gx_ins 76 30 = some (false, .getfield 53, 0) := rfl
theorem gi76_33 : gx_ins 76 33 = some (false, .iload_n 1, 0) := rfl
theorem gi76_34 : gx_ins 76 34 = some (false, .iaload, 0) := rfl
theorem gi76_35 : gx_ins 76 35 = some (false, .goto 4, 39) := rfl
theorem gi76_38 : gx_ins 76 38 = some (false, .iconst 0, 0) := rfl
theorem gi76_39 : gx_ins 76 39 = some (false, .iastore, 0) := rfl
theorem gi76_40 : gx_ins 76 40 = some (false, .iinc 1 1, 0) := rfl
theorem gi76_43 : gx_ins 76 43 = some (false, .goto (-36), 7) := rfl
theorem gi76_46 : gx_ins 76 46 = some (false, .iconst 0, 0) := rfl
theorem gi76_47 : gx_ins 76 47 = some (false, .istore_n 1, 0) := rfl
theorem gi76_48 : gx_ins 76 48 = some (true, .iload_n 1, 0) := rfl
theorem gi76_49 : gx_ins 76 49 = some (false, .aload_n 0, 0) := rfl
theorem gi76_50 : gx_ins 76 50 = some (false, .getfield 91, 0) := rfl
theorem gi76_53 : gx_ins 76 53 = some (false, .if_icmp .ge 68, 121) := rfl
theorem gi76_56 : gx_ins 76 56 = some (false, .aload_n 0, 0) := rfl
theorem gi76_57 : gx_ins 76 57 = some (false, .getfield 71, 0) := rfl
theorem gi76_60 : gx_ins 76 60 = some (false, .iload_n 1, 0) := rfl
theorem gi76_61 : gx_ins 76 61 = some (false, .aload_n 0, 0) := rfl
theorem gi76_62 : gx_ins 76 62 = some (false, .getfield 7, 0) := rfl
theorem gi76_65 : gx_ins 76 65 = some (false, .iload_n 1, 0) := rfl
theorem gi76_66 : gx_ins 76 66 = some (false, .iaload, 0) := rfl
theorem gi76_67 : gx_ins 76 67 = some (false, .iconst 1, 0) := rfl
theorem gi76_68 : gx_ins 76 68 = some (false, .if_icmp .ne 19, 87) := rfl
theorem gi76_71 : gx_ins 76 71 = some (false, .aload_n 0, 0) := rfl
theorem gi76_72 : gx_ins 76 72 = some (false, .iconst 0, 0) := rfl
theorem gi76_73 : gx_ins 76 73 = some (false, .iload_n 1, 0) := rfl
theorem gi76_74 : gx_ins 76 74 = some (false, .invokevirtual 137, 0) := rfl
theorem gi76_77 : gx_ins 76 77 = some (false, .aload_n 0, 0) := rfl
theorem gi76_78 : gx_ins 76 78 = some (false, .iconst 0, 0) := rfl
theorem gi76_79 : gx_ins 76 79 = some (false, .iload_n 1, 0) := rfl
theorem gi76_80 : gx_ins 76 80 = some (false, .invokevirtual 141, 0) := rfl
theorem gi76_83 : gx_ins 76 83 = some (false, .isub, 0) := rfl
theorem gi76_84 : gx_ins 76 84 = some (false, .goto 30, 114) := rfl
theorem gi76_87 : gx_ins 76 87 = some (false, .aload_n 0, 0) := rfl
theorem gi76_88 : gx_ins 76 88 = some (false, .getfield 7, 0) := rfl
theorem gi76_91 : gx_ins 76 91 = some (false, .iload_n 1, 0) := rfl
theorem gi76_92 : gx_ins 76 92 = some (false, .iaload, 0) := rfl
theorem gi76_93 : gx_ins 76 93 = some (false, .iconst 2, 0) := rfl
theorem gi76_94 : gx_ins 76 94 = some (false, .if_icmp .ne 19, 113) := rfl
theorem gi76_97 : gx_ins 76 97 = some (false, .aload_n 0, 0) := rfl
theorem gi76_98 : gx_ins 76 98 = some (false, .iconst 0, 0) := rfl
theorem gi76_99 : gx_ins 76 99 = some (false, .iload_n 1, 0) := rfl
theorem gi76_100 : gx_ins 76 100 = some (false, .invokevirtual 141, 0) := rfl
theorem gi76_103 : gx_ins 76 103 = some (false, .aload_n 0, 0) := rfl
theorem gi76_104 : gx_ins 76 104 = some (false, .iconst 0, 0) := rfl
theorem gi76_105 : gx_ins 76 105 = some (false, .iload_n 1, 0) := rfl
theorem gi76_106 : gx_ins 76 106 = some (false, .invokevirtual 137, 0) := rfl
theorem gi76_109 : gx_ins 76 109 = some (false, .isub, 0) := rfl
theorem gi76_110 : gx_ins 76 110 = some (false, .goto 4, 114) := rfl
theorem gi76_113 : gx_ins 76 113 = some (false, .iconst 0, 0) := rfl
theorem gi76_114 : gx_ins 76 114 = some (false, .iastore, 0) := rfl
theorem gi76_115 : gx_ins 76 115 = some (false, .iinc 1 1, 0) := rfl
theorem gi76_118 : gx_ins 76 118 = some (false, .goto (-70), 48) := rfl
theorem gi76_121 : gx_ins 76 121 = some (false, .aload_n 0, 0) := rfl
theorem gi76_122 : gx_ins 76 122 = some (false, .invokevirtual 144, 0) := rfl
theorem gi76_125 : gx_ins 76 125 = some (false, .istore_n 1, 0) := rfl
theorem gi76_126 : gx_ins 76 126 = some (true, .iload_n 1, 0) := rfl
theorem gi76_127 : gx_ins 76 127 = some (false, .ifCond .lt 16, 143) := rfl
theorem gi76_130 : gx_ins 76 130 = some (false, .aload_n 0, 0) := rfl
theorem gi76_131 : gx_ins 76 131 = some (false, .iload_n 1, 0) := rfl
theorem gi76_132 : gx_ins 76 132 = some (false, .invokevirtual 147, 0) := rfl
theorem gi76_135 : gx_ins 76 135 = some (false, .aload_n 0, 0) := rfl
theorem gi76_136 : gx_ins 76 136 = some (false, .invokevirtual 144, 0) := rfl
theorem gi76_139 : gx_ins 76 139 = some (false, .istore_n 1, 0) := rfl
theorem gi76_140 : gx_ins 76 140 = some (false, .goto (-14), 126) := rfl
theorem gi76_143 : gx_ins 76 143 = some (false, .return_, 0) := rfl
theorem gi77_0 : gx_ins 77 0 = some (false, .iconst 0, 0) := rfl
theorem gi77_1 : gx_ins 77 1 = some (false, .istore_n 1, 0) := rfl
theorem gi77_2 : gx_ins 77 2 = some (true, .iload_n 1, 0) := rfl
theorem gi77_3 : gx_ins 77 3 = some (false, .aload_n 0, 0) := rfl
theorem gi77_4 : gx_ins 77 4 = some (false, .getfield 91, 0) := rfl
theorem gi77_7 : gx_ins 77 7 = some (false, .if_icmp .ge 30, 37) := rfl
theorem gi77_10 : gx_ins 77 10 = some (false, .aload_n 0, 0) := rfl
theorem gi77_11 : gx_ins 77 11 = some (false, .getfield 7, 0) := rfl
theorem gi77_14 : gx_ins 77 14 = some (false, .iload_n 1, 0) := rfl
theorem gi77_15 : gx_ins 77 15 = some (false, .iaload, 0) := rfl
theorem gi77_16 : gx_ins 77 16 = some (false, .iconst 1, 0) := rfl
theorem gi77_17 : gx_ins 77 17 = some (false, .if_icmp .ne 14, 31) := rfl
theorem gi77_20 : gx_ins 77 20 = some (false, .aload_n 0, 0) := rfl
theorem gi77_21 : gx_ins 77 21 = some (false, .getfield 71, 0) := rfl
theorem gi77_24 : gx_ins 77 24 = some (false, .iload_n 1, 0) := rfl
theorem gi77_25 : gx_ins 77 25 = some (false, .iaload, 0) := rfl
theorem gi77_26 : gx_ins 77 26 = some (false, .ifCond .le 5, 31) := rfl
theorem gi77_29 : gx_ins 77 29 = some (false, .iload_n 1, 0) := rfl
theorem gi77_30 : gx_ins 77 30 = some (false, .ireturn, 0) := rfl
theorem gi77_31 : gx_ins 77 31 = some (false, .iinc 1 1, 0) := rfl
theorem gi77_34 : gx_ins 77 34 = some (false, .goto (-32), 2) := rfl
theorem gi77_37 : gx_ins 77 37 = some (false, .iconst (-1), 0) := rfl
theorem gi77_38 : gx_ins 77 38 = some (false, .ireturn, 0) := rfl
theorem gi78_0 : gx_ins 78 0 = some (false, .iconst 0, 0) := rfl
theorem gi78_1 : gx_ins 78 1 = some (false, .istore_n 2, 0) := rfl
theorem gi78_2 : gx_ins 78 2 = some (true, .iload_n 2, 0) := rfl
theorem gi78_3 : gx_ins 78 3 = some (false, .aload_n 0, 0) := rfl
theorem gi78_4 : gx_ins 78 4 = some (false, .getfield 91, 0) := rfl
theorem gi78_7 : gx_ins 78 7 = some (false, .if_icmp .ge 16, 23) := rfl
theorem gi78_10 : gx_ins 78 10 = some (false, .aload_n 0, 0) := rfl
theorem gi78_11 : gx_ins 78 11 = some (false, .getfield 77, 0) := rfl
theorem gi78_14 : gx_ins 78 14 = some (false, .iload_n 2, 0) := rfl
theorem gi78_15 : gx_ins 78 15 = some (false, .iconst (-1), 0) := rfl
theorem gi78_16 : gx_ins 78 16 = some (false, .iastore, 0) := rfl
theorem gi78_17 : gx_ins 78 17 = some (false, .iinc 2 1, 0) := rfl
theorem gi78_20 : gx_ins 78 20 = some (false, .goto (-18), 2) := rfl
theorem gi78_23 : gx_ins 78 23 = some (false, .iconst 0, 0) := rfl
theorem gi78_24 : gx_ins 78 24 = some (false, .istore_n 2, 0) := rfl
theorem gi78_25 : gx_ins 78 25 = some (false, .iload_n 1, 0) := rfl
theorem gi78_26 : gx_ins 78 26 = some (false, .istore_n 3, 0) := rfl
theorem gi78_27 : gx_ins 78 27 = some (false, .aload_n 0, 0) := rfl
theorem gi78_28 : gx_ins 78 28 = some (false, .getfield 77, 0) := rfl
theorem gi78_31 : gx_ins 78 31 = some (false, .iload_n 3, 0) := rfl
theorem gi78_32 : gx_ins 78 32 = some (false, .iconst 0, 0) := rfl
theorem gi78_33 : gx_ins 78 33 = some (false, .iastore, 0) := rfl
theorem gi78_34 : gx_ins 78 34 = some (true, .aload_n 0, 0) := rfl
theorem gi78_35 : gx_ins 78 35 = some (false, .getfield 7, 0) := rfl
theorem gi78_38 : gx_ins 78 38 = some (false, .iload_n 3, 0) := rfl
theorem gi78_39 : gx_ins 78 39 = some (false, .iaload, 0) := rfl
theorem gi78_40 : gx_ins 78 40 = some (false, .iconst 2, 0) := rfl
theorem gi78_41 : gx_ins 78 41 = some (false, .if_icmp .ne 12, 53) := rfl
theorem gi78_44 : gx_ins 78 44 = some (false, .aload_n 0, 0) := rfl
theorem gi78_45 : gx_ins 78 45 = some (false, .getfield 71, 0) := rfl
theorem gi78_48 : gx_ins 78 48 = some (false, .iload_n 3, 0) := rfl
theorem gi78_49 : gx_ins 78 49 = some (false, .iaload, 0) := rfl
theorem gi78_50 : gx_ins 78 50 = some (false, .ifCond .ne 71, 121) := rfl
theorem gi78_53 : gx_ins 78 53 = some (false, .aload_n 0, 0) := rfl
theorem gi78_54 : gx_ins 78 54 = some (false, .iload_n 3, 0) := rfl
theorem gi78_55 : gx_ins 78 55 = some (false, .invokevirtual 150, 0) := rfl
theorem gi78_58 : gx_ins 78 58 = some (false, .istore 4, 0) := rfl
theorem gi78_60 : gx_ins 78 60 = some (false, .aload_n 0, 0) := rfl
theorem gi78_61 : gx_ins 78 61 = some (false, .getfield 74, 0) := rfl
theorem gi78_64 : gx_ins 78 64 = some (false, .iload_n 2, 0) := rfl
theorem gi78_65 : gx_ins 78 65 = some (false, .iload 4, 0) := rfl
theorem gi78_67 : gx_ins 78 67 = some (false, .iastore, 0) := rfl
theorem gi78_68 : gx_ins 78 68 = some (false, .iinc 2 1, 0) := rfl
theorem gi78_71 : gx_ins 78 71 = some (false, .aload_n 0, 0) := rfl
theorem gi78_72 : gx_ins 78 72 = some (false, .getfield 19, 0) := rfl
theorem gi78_75 : gx_ins 78 75 = some (false, .iload 4, 0) := rfl
theorem gi78_77 : gx_ins 78 77 = some (false, .iaload, 0) := rfl
theorem gi78_78 : gx_ins 78 78 = some (false, .istore_n 3, 0) := rfl
theorem gi78_79 : gx_ins 78 79 = some (false, .aload_n 0, 0) := rfl
theorem gi78_80 : gx_ins 78 80 = some (false, .getfield 77, 0) := rfl
theorem gi78_83 : gx_ins 78 83 = some (false, .iload_n 3, 0) := rfl
theorem gi78_84 : gx_ins 78 84 = some (false, .iaload, 0) := rfl
theorem gi78_85 : gx_ins 78 85 = some (false, .ifCond .lt 26, 111) := rfl
theorem gi78_88 : gx_ins 78 88 = some (false, .aload_n 0, 0) := rfl
theorem gi78_89 : gx_ins 78 89 = some (false, .aload_n 0, 0) := rfl
theorem gi78_90 : gx_ins 78 90 = some (false, .getfield 77, 0) := rfl
theorem gi78_93 : gx_ins 78 93 = some (false, .iload_n 3, 0) := rfl
theorem gi78_94 : gx_ins 78 94 = some (false, .iaload, 0) := rfl
theorem gi78_95 : gx_ins 78 95 = some (false, .iload_n 2, 0) := rfl
theorem gi78_96 : gx_ins 78 96 = some (false, .aload_n 0, 0) := rfl
theorem gi78_97 : gx_ins 78 97 = some (false, .aload_n 0, 0) := rfl
theorem gi78_98 : gx_ins 78 98 = some (false, .getfield 77, 0) := rfl
theorem gi78_101 : gx_ins 78 101 = some (false, .iload_n 3, 0) := rfl
theorem gi78_102 : gx_ins 78 102 = some (false, .iaload, 0) := rfl
theorem gi78_103 : gx_ins 78 103 = some (false, .iload_n 2, 0) := rfl
theorem gi78_104 : gx_ins 78 104 = some (false, .invokevirtual 154, 0) := rfl
theorem gi78_107 : gx_ins 78 107 = some (false, .invokevirtual 157, 0) := rfl
theorem gi78_110 : gx_ins 78 110 = some (false, .return_, 0) := rfl
theorem gi78_111 : gx_ins 78 111 = some (false, .aload_n 0, 0) := rfl
theorem gi78_112 : gx_ins 78 112 = some (false, .getfield 77, 0) := rfl
theorem gi78_115 : gx_ins 78 115 = some (false, .iload_n 3, 0) := rfl
theorem gi78_116 : gx_ins 78 116 = some (false, .iload_n 2, 0) := rfl
theorem gi78_117 : gx_ins 78 117 = some (false, .iastore, 0) := rfl
theorem gi78_118 : gx_ins 78 118 = some (false, .goto (-84), 34) := rfl
theorem gi78_121 : gx_ins 78 121 = some (false, .aload_n 0, 0) := rfl
theorem gi78_122 : gx_ins 78 122 = some (false, .iconst 0, 0) := rfl
theorem gi78_123 : gx_ins 78 123 = some (false, .iload_n 2, 0) := rfl
theorem gi78_124 : gx_ins 78 124 = some (false, .invokevirtual 154, 0) := rfl
theorem gi78_127 : gx_ins 78 127 = some (false, .istore 4, 0) := rfl
theorem gi78_129 : gx_ins 78 129 = some (false, .aload_n 0, 0) := rfl
theorem gi78_130 : gx_ins 78 130 = some (false, .getfield 71, 0) := rfl
theorem gi78_133 : gx_ins 78 133 = some (false, .iload_n 1, 0) := rfl
theorem gi78_134 : gx_ins 78 134 = some (false, .iaload, 0) := rfl
theorem gi78_135 : gx_ins 78 135 = some (false, .iload 4, 0) := rfl
theorem gi78_137 : gx_ins 78 137 = some (false, .if_icmp .ge 12, 149) := rfl
theorem gi78_140 : gx_ins 78 140 = some (false, .aload_n 0, 0) := rfl
theorem gi78_141 : gx_ins 78 141 = some (false, .getfield 71, 0) := rfl
theorem gi78_144 : gx_ins 78 144 = some (false, .iload_n 1, 0) := rfl
theorem gi78_145 : gx_ins 78 145 = some (false, .iaload, 0) := rfl
theorem gi78_146 : gx_ins 78 146 = some (false, .goto 5, 151) := rfl
theorem gi78_149 : gx_ins 78 149 = some (false, .iload 4, 0) := rfl
theorem gi78_151 : gx_ins 78 151 = some (false, .istore 4, 0) := rfl
theorem gi78_153 : gx_ins 78 153 = some (false, .aload_n 0, 0) := rfl
theorem gi78_154 : gx_ins 78 154 = some (false, .getfield 71, 0) := rfl
theorem gi78_157 : gx_ins 78 157 = some (false, .iload_n 3, 0) := rfl
theorem gi78_158 : gx_ins 78 158 = some (false, .iaload, 0) := rfl
theorem gi78_159 : gx_ins 78 159 = some (false, .iload 4, 0) := rfl
theorem gi78_161 : gx_ins 78 161 = some (false, .if_icmp .ge 12, 173) := rfl
theorem gi78_164 : gx_ins 78 164 = some (false, .aload_n 0, 0) := rfl
theorem gi78_165 : gx_ins 78 165 = some (false, .getfield 71, 0) := rfl
theorem gi78_168 : gx_ins 78 168 = some (false, .iload_n 3, 0) := rfl
theorem gi78_169 : gx_ins 78 169 = some (false, .iaload, 0) := rfl
theorem gi78_170 : gx_ins 78 170 = some (false, .goto 5, 175) := rfl
theorem gi78_173 : gx_ins 78 173 = some (false, .iload 4, 0) := rfl
theorem gi78_175 : gx_ins 78 175 = some (false, .istore 4, 0) := rfl
theorem gi78_177 : gx_ins 78 177 = some (false, .aload_n 0, 0) := rfl
theorem gi78_178 : gx_ins 78 178 = some (false, .iconst 0, 0) := rfl
theorem gi78_179 : gx_ins 78 179 = some (false, .iload_n 2, 0) := rfl
theorem gi78_180 : gx_ins 78 180 = some (false, .iload 4, 0) := rfl
theorem gi78_182 : gx_ins 78 182 = some (false, .invokevirtual 157, 0) := rfl
theorem gi78_185 : gx_ins 78 185 = some (false, .aload_n 0, 0) := rfl
theorem gi78_186 : gx_ins 78 186 = some (false, .getfield 71, 0) := rfl
theorem gi78_189 : gx_ins 78 189 = some (false, .iload_n 1, 0) := rfl
theorem gi78_190 : gx_ins 78 190 = some (false, .dup2, 0) := rfl
theorem gi78_191 : gx_ins 78 191 = some (false, .iaload, 0) := rfl
theorem gi78_192 : gx_ins 78 192 = some (false, .iload 4, 0) := rfl
theorem gi78_194 : gx_ins 78 194 = some (false, .isub, 0) := rfl
theorem gi78_195 : gx_ins 78 195 = some (false, .iastore, 0) := rfl
theorem gi78_196 : gx_ins 78 196 = some (false, .aload_n 0, 0) := rfl
theorem gi78_197 : gx_ins 78 197 = some (false, .getfield 71, 0) := rfl
theorem gi78_200 : gx_ins 78 200 = some (false, .iload_n 3, 0) := rfl
theorem gi78_201 : gx_ins 78 201 = some (false, .dup2, 0) := rfl
theorem gi78_202 : gx_ins 78 202 = some (false, .iaload, 0) := rfl
theorem gi78_203 : gx_ins 78 203 = some (false, .iload 4, 0) := rfl
theorem gi78_205 : gx_ins 78 205 = some (false, .isub, 0) := rfl
theorem gi78_206 : gx_ins 78 206 = some (false, .iastore, 0) := rfl
theorem gi78_207 : gx_ins 78 207 = some (false, .aload_n 0, 0) := rfl
theorem gi78_208 : gx_ins 78 208 = some (false, .getfield 59, 0) := rfl
theorem gi78_211 : gx_ins 78 211 = some (false, .aload_n 0, 0) := rfl
theorem gi78_212 : gx_ins 78 212 = some (false, .getfield 134, 0) := rfl
theorem gi78_215 : gx_ins 78 215 = some (false, .iload 4, 0) := rfl
theorem gi78_217 : gx_ins 78 217 = some (false, .iastore, 0) := rfl
theorem gi78_218 : gx_ins 78 218 = some (false, .aload_n 0, 0) := rfl
theorem gi78_219 : gx_ins 78 219 = some (false, .getfield 62, 0) := rfl
theorem gi78_222 : gx_ins 78 222 = some (false, .aload_n 0, 0) := rfl
theorem gi78_223 : gx_ins 78 223 = some (false, .getfield 134, 0) := rfl
theorem gi78_226 : gx_ins 78 226 = some (false, .iload_n 2, 0) := rfl
theorem gi78_227 : gx_ins 78 227 = some (false, .iastore, 0) := rfl
theorem gi78_228 : gx_ins 78 228 = some (false, .iconst 0, 0) := rfl
theorem gi78_229 : gx_ins 78 229 = some (false, .istore 5, 0) := rfl
theorem gi78_231 : gx_ins 78 231 = some (true, .iload 5, 0) := rfl
theorem gi78_233 : gx_ins 78 233 = some (false, .iload_n 2, 0) := rfl
theorem gi78_234 : gx_ins 78 234 = some (false, .if_icmp .ge 31, 265) := rfl
theorem gi78_237 : gx_ins 78 237 = some (false, .aload_n 0, 0) := rfl
theorem gi78_238 : gx_ins 78 238 = some (false, .getfield 65, 0) := rfl
theorem gi78_241 : gx_ins 78 241 = some (false, .bipush 10, 0) := rfl
theorem gi78_243 : gx_ins 78 243 = some (false, .aload_n 0, 0) := rfl
theorem gi78_244 : gx_ins 78 244 = some (false, .getfield 134, 0) := rfl
theorem gi78_247 : gx_ins 78 247 = some (false, .imul, 0) := rfl
theorem gi78_248 : gx_ins 78 248 = some (false, .iload 5, 0) := rfl
theorem gi78_250 : gx_ins 78 250 = some (false, .iadd, 0) := rfl
theorem gi78_251 : gx_ins 78 251 = some (false, .aload_n 0, 0) := rfl
theorem gi78_252 : gx_ins 78 252 = some (false, .getfield 74, 0) := rfl
theorem gi78_255 : gx_ins 78 255 = some (false, .iload 5, 0) := rfl
theorem gi78_257 : gx_ins 78 257 = some (false, .iaload, 0) := rfl
theorem gi78_258 : gx_ins 78 258 = some (false, .iastore, 0) := rfl
theorem gi78_259 : gx_ins 78 259 = some (false, .iinc 5 1, 0) := rfl
theorem gi78_262 : gx_ins 78 262 = some (false, .goto (-31), 231) := rfl
theorem gi78_265 : gx_ins 78 265 = some (false, .aload_n 0, 0) := rfl
theorem gi78_266 : gx_ins 78 266 = some (false, .dup, 0) := rfl
theorem gi78_267 : gx_ins 78 267 = some (false, .getfield 134, 0) := rfl
theorem gi78_270 : gx_ins 78 270 = some (false, .iconst 1, 0) := rfl
theorem gi78_271 : gx_ins 78 271 = some (false, .iadd, 0) := rfl
theorem gi78_272 : gx_ins 78 272 = some (false, .putfield 134, 0) := rfl
theorem gi78_275 : gx_ins 78 275 = some (false, .return_, 0) := rfl
theorem gi79_0 : gx_ins 79 0 = some (false, .iload_n 1, 0) := rfl
theorem gi79_1 : gx_ins 79 1 = some (false, .ifCond .lt 15, 16) := rfl
theorem gi79_4 : gx_ins 79 4 = some (false, .iload_n 1, 0) := rfl
theorem gi79_5 : gx_ins 79 5 = some (false, .aload_n 0, 0) := rfl
theorem gi79_6 : gx_ins 79 6 = some (false, .getfield 91, 0) := rfl
theorem gi79_9 : gx_ins 79 9 = some (false, .if_icmp .ge 7, 16) := rfl
theorem gi79_12 : gx_ins 79 12 = some (false, .iconst 1, 0) := rfl
theorem gi79_13 : gx_ins 79 13 = some (false, .goto 4, 17) := rfl
theorem gi79_16 : gx_ins 79 16 = some (false, .iconst 0, 0) := rfl
theorem gi79_17 : gx_ins 79 17 = some (false, .ireturn, 0) := rfl
theorem gi80_0 : gx_ins 80 0 = some (false, .iload_n 1, 0) := rfl
theorem gi80_1 : gx_ins 80 1 = some (false, .ifCond .lt 24, 25) := rfl
theorem gi80_4 : gx_ins 80 4 = some (false, .iload_n 1, 0) := rfl
theorem gi80_5 : gx_ins 80 5 = some (false, .aload_n 0, 0) := rfl
theorem gi80_6 : gx_ins 80 6 = some (false, .getfield 84, 0) := rfl
theorem gi80_9 : gx_ins 80 9 = some (false, .if_icmp .ge 16, 25) := rfl
theorem gi80_12 : gx_ins 80 12 = some (false, .aload_n 0, 0) := rfl
theorem gi80_13 : gx_ins 80 13 = some (false, .getfield 28, 0) := rfl
theorem gi80_16 : gx_ins 80 16 = some (false, .iload_n 1, 0) := rfl
theorem gi80_17 : gx_ins 80 17 = some (false, .baload, 0) := rfl
theorem gi80_18 : gx_ins 80 18 = some (false, .ifCond .eq 7, 25) := rfl
theorem gi80_21 : gx_ins 80 21 = some (false, .iconst 1, 0) := rfl
theorem gi80_22 : gx_ins 80 22 = some (false, .goto 4, 26) := rfl
theorem gi80_25 : gx_ins 80 25 = some (false, .iconst 0, 0) := rfl
theorem gi80_26 : gx_ins 80 26 = some (false, .ireturn, 0) := rfl
theorem gi81_0 : gx_ins 81 0 = some (false, .iload_n 0, 0) := rfl
theorem gi81_1 : gx_ins 81 1 = some (false, .ifCond .lt 19, 20) := rfl
theorem gi81_4 : gx_ins 81 4 = some (false, .iload_n 1, 0) := rfl
theorem gi81_5 : gx_ins 81 5 = some (false, .sipush 1000, 0) := rfl
theorem gi81_8 : gx_ins 81 8 = some (false, .if_icmp .gt 12, 20) := rfl
theorem gi81_11 : gx_ins 81 11 = some (false, .iload_n 0, 0) := rfl
theorem gi81_12 : gx_ins 81 12 = some (false, .iload_n 1, 0) := rfl
theorem gi81_13 : gx_ins 81 13 = some (false, .if_icmp .gt 7, 20) := rfl
theorem gi81_16 : gx_ins 81 16 = some (false, .iconst 1, 0) := rfl
theorem gi81_17 : gx_ins 81 17 = some (false, .goto 4, 21) := rfl
theorem gi81_20 : gx_ins 81 20 = some (false, .iconst 0, 0) := rfl
theorem gi81_21 : gx_ins 81 21 = some (false, .ireturn, 0) := rfl
theorem gi82_0 : gx_ins 82 0 = some (false, .aload_n 0, 0) := rfl
theorem gi82_1 : gx_ins 82 1 = some (false, .getfield 91, 0) := rfl
theorem gi82_4 : gx_ins 82 4 = some (false, .bipush 10, 0) := rfl
theorem gi82_6 : gx_ins 82 6 = some (false, .if_icmp .ne 6, 12) := rfl
theorem gi82_9 : gx_ins 82 9 = some (false, .bipush (-4), 0) := rfl
theorem gi82_11 : gx_ins 82 11 = some (false, .ireturn, 0) := rfl
theorem gi82_12 : gx_ins 82 12 = some (false, .aload_n 0, 0) := rfl
theorem gi82_13 : gx_ins 82 13 = some (false, .getfield 7, 0) := rfl
theorem gi82_16 : gx_ins 82 16 = some (false, .aload_n 0, 0) := rfl
theorem gi82_17 : gx_ins 82 17 = some (false, .getfield 91, 0) := rfl
theorem gi82_20 : gx_ins 82 20 = some (false, .iconst 0, 0) := rfl
theorem gi82_21 : gx_ins 82 21 = some (false, .iastore, 0) := rfl
theorem gi82_22 : gx_ins 82 22 = some (false, .aload_n 0, 0) := rfl
theorem gi82_23 : gx_ins 82 23 = some (false, .getfield 13, 0) := rfl
theorem gi82_26 : gx_ins 82 26 = some (false, .aload_n 0, 0) := rfl
theorem gi82_27 : gx_ins 82 27 = some (false, .getfield 91, 0) := rfl
theorem gi82_30 : gx_ins 82 30 = some (false, .iconst (-1), 0) := rfl
theorem gi82_31 : gx_ins 82 31 = some (false, .iastore, 0) := rfl
theorem gi82_32 : gx_ins 82 32 = some (false, .aload_n 0, 0) := rfl
theorem gi82_33 : gx_ins 82 33 = some (false, .dup, 0) := rfl
theorem gi82_34 : gx_ins 82 34 = some (false, .getfield 91, 0) := rfl
theorem gi82_37 : gx_ins 82 37 = some (false, .iconst 1, 0) := rfl
theorem gi82_38 : gx_ins 82 38 = some (false, .iadd, 0) := rfl
theorem gi82_39 : gx_ins 82 39 = some (false, .putfield 91, 0) := rfl
theorem gi82_42 : gx_ins 82 42 = some (false, .aload_n 0, 0) := rfl
theorem gi82_43 : gx_ins 82 43 = some (false, .iconst 0, 0) := rfl
theorem gi82_44 : gx_ins 82 44 = some (false, .putfield 117, 0) := rfl
theorem gi82_47 : gx_ins 82 47 = some (false, .aload_n 0, 0) := rfl
theorem gi82_48 : gx_ins 82 48 = some (false, .getfield 91, 0) := rfl
theorem gi82_51 : gx_ins 82 51 = some (false, .iconst 1, 0) := rfl
theorem gi82_52 : gx_ins 82 52 = some (false, .isub, 0) := rfl
theorem gi82_53 : gx_ins 82 53 = some (false, .ireturn, 0) := rfl
theorem gi83_0 : gx_ins 83 0 = some (false, .aload_n 0, 0) := rfl
theorem gi83_1 : gx_ins 83 1 = some (false, .iload_n 1, 0) := rfl
theorem gi83_2 : gx_ins 83 2 = some (false, .invokevirtual 161, 0) := rfl
theorem gi83_5 : gx_ins 83 5 = some (false, .ifCond .ne 5, 10) := rfl
theorem gi83_8 : gx_ins 83 8 = some (false, .iconst (-1), 0) := rfl
theorem gi83_9 : gx_ins 83 9 = some (false, .ireturn, 0) := rfl
theorem gi83_10 : gx_ins 83 10 = some (false, .iload_n 2, 0) := rfl
theorem gi83_11 : gx_ins 83 11 = some (false, .ifCond .lt 8, 19) := rfl
theorem gi83_14 : gx_ins 83 14 = some (false, .iload_n 2, 0) := rfl
theorem gi83_15 : gx_ins 83 15 = some (false, .iconst 2, 0) := rfl
theorem gi83_16 : gx_ins 83 16 = some (false, .if_icmp .le 6, 22) := rfl
theorem gi83_19 : gx_ins 83 19 = some (false, .bipush (-2), 0) := rfl
theorem gi83_21 : gx_ins 83 21 = some (false, .ireturn, 0) := rfl
theorem gi83_22 : gx_ins 83 22 = some (false, .aload_n 0, 0) := rfl
theorem gi83_23 : gx_ins 83 23 = some (false, .getfield 7, 0) := rfl
theorem gi83_26 : gx_ins 83 26 = some (false, .iload_n 1, 0) := rfl
theorem gi83_27 : gx_ins 83 27 = some (false, .iaload, 0) := rfl
theorem gi83_28 : gx_ins 83 28 = some (false, .istore_n 3, 0) := rfl
theorem gi83_29 : gx_ins 83 29 = some (false, .aload_n 0, 0) := rfl
theorem gi83_30 : gx_ins 83 30 = some (false, .getfield 7, 0) := rfl
theorem gi83_33 : gx_ins 83 33 = some (false, .iload_n 1, 0) := rfl
theorem gi83_34 : gx_ins 83 34 = some (false, .iload_n 2, 0) := rfl
theorem gi83_35 : gx_ins 83 35 = some (false, .iastore, 0) := rfl
theorem gi83_36 : gx_ins 83 36 = some (false, .aload_n 0, 0) := rfl
theorem gi83_37 : gx_ins 83 37 = some (false, .iconst 0, 0) := rfl
theorem gi83_38 : gx_ins 83 38 = some (false, .putfield 117, 0) := rfl
theorem gi83_41 : gx_ins 83 41 = some (false, .iload_n 3, 0) := rfl
theorem gi83_42 : gx_ins 83 42 = some (false, .ireturn, 0) := rfl
theorem gi84_0 : gx_ins 84 0 = some (false, .aload_n 0, 0) := rfl
theorem gi84_1 : gx_ins 84 1 = some (false, .iload_n 1, 0) := rfl
theorem gi84_2 : gx_ins 84 2 = some (false, .invokevirtual 161, 0) := rfl
theorem gi84_5 : gx_ins 84 5 = some (false, .ifCond .ne 5, 10) := rfl
theorem gi84_8 : gx_ins 84 8 = some (false, .iconst (-1), 0) := rfl
theorem gi84_9 : gx_ins 84 9 = some (false, .ireturn, 0) := rfl
theorem gi84_10 : gx_ins 84 10 = some (false, .iload_n 2, 0) := rfl
theorem gi84_11 : gx_ins 84 11 = some (false, .iconst (-1), 0) := rfl
theorem gi84_12 : gx_ins 84 12 = some (false, .if_icmp .lt 9, 21) := rfl
theorem gi84_15 : gx_ins 84 15 = some (false, .iload_n 2, 0) := rfl
theorem gi84_16 : gx_ins 84 16 = some (false, .ldc 165, 0) := rfl
theorem gi84_18 : gx_ins 84 18 = some (false, .if_icmp .le 6, 24) := rfl
theorem gi84_21 : gx_ins 84 21 = some (false, .bipush (-2), 0) := rfl
theorem gi84_23 : gx_ins 84 23 = some (false, .ireturn, 0) := rfl
theorem gi84_24 : gx_ins 84 24 = some (false, .aload_n 0, 0) := rfl
theorem gi84_25 : gx_ins 84 25 = some (false, .getfield 13, 0) := rfl
theorem gi84_28 : gx_ins 84 28 = some (false, .iload_n 1, 0) := rfl
theorem gi84_29 : gx_ins 84 29 = some (false, .iload_n 2, 0) := rfl
theorem gi84_30 : gx_ins 84 30 = some (false, .iastore, 0) := rfl
theorem gi84_31 : gx_ins 84 31 = some (false, .aload_n 0, 0) := rfl
theorem gi84_32 : gx_ins 84 32 = some (false, .iconst 0, 0) := rfl
theorem gi84_33 : gx_ins 84 33 = some (false, .putfield 117, 0) := rfl
theorem gi84_36 : gx_ins 84 36 = some (false, .iconst 1, 0) := rfl
theorem gi84_37 : gx_ins 84 37 = some (false, .ireturn, 0) := rfl
theorem gi85_0 : gx_ins 85 0 = some (false, .aload_n 0, 0) := rfl
theorem gi85_1 : gx_ins 85 1 = some (false, .iload_n 1, 0) := rfl
theorem gi85_2 : gx_ins 85 2 = some (false, .invokevirtual 161, 0) := rfl
theorem gi85_5 : gx_ins 85 5 = some (false, .ifCond .eq 16, 21) := rfl
theorem gi85_8 : gx_ins 85 8 = some (false, .aload_n 0, 0) := rfl
theorem gi85_9 : gx_ins 85 9 = some (false, .iload_n 2, 0) := rfl
theorem gi85_10 : gx_ins 85 10 = some (false, .invokevirtual 161, 0) := rfl
theorem gi85_13 : gx_ins 85 13 = some (false, .ifCond .eq 8, 21) := rfl
theorem gi85_16 : gx_ins 85 16 = some (false, .iload_n 1, 0) := rfl
theorem gi85_17 : gx_ins 85 17 = some (false, .iload_n 2, 0) := rfl
theorem gi85_18 : gx_ins 85 18 = some (false, .if_icmp .ne 5, 23) := rfl
theorem gi85_21 : gx_ins 85 21 = some (false, .iconst (-1), 0) := rfl
theorem gi85_22 : gx_ins 85 22 = some (false, .ireturn, 0) := rfl
theorem gi85_23 : gx_ins 85 23 = some (false, .iload_n 3, 0) := rfl
theorem gi85_24 : gx_ins 85 24 = some (false, .iload 4, 0) := rfl
theorem gi85_26 : gx_ins 85 26 = some (false, .invokestatic 166, 0) := rfl
theorem gi85_29 : gx_ins 85 29 = some (false, .ifCond .ne 6, 35) := rfl
theorem gi85_32 : gx_ins 85 32 = some (false, .bipush (-2), 0) := rfl
theorem gi85_34 : gx_ins 85 34 = some (false, .ireturn, 0) := rfl
theorem gi85_35 : gx_ins 85 35 = some (false, .aload_n 0, 0) := rfl
theorem gi85_36 : gx_ins 85 36 = some (false, .getfield 84, 0) := rfl
theorem gi85_39 : gx_ins 85 39 = some (false, .bipush 40, 0) := rfl
theorem gi85_41 : gx_ins 85 41 = some (false, .if_icmp .ne 6, 47) := rfl
theorem gi85_44 : gx_ins 85 44 = some (false, .bipush (-4), 0) := rfl
theorem gi85_46 : gx_ins 85 46 = some (false, .ireturn, 0) := rfl
theorem gi85_47 : gx_ins 85 47 = some (false, .aload_n 0, 0) := rfl
theorem gi85_48 : gx_ins 85 48 = some (false, .getfield 16, 0) := rfl
theorem gi85_51 : gx_ins 85 51 = some (false, .aload_n 0, 0) := rfl
theorem gi85_52 : gx_ins 85 52 = some (false, .getfield 84, 0) := rfl
theorem gi85_55 : gx_ins 85 55 = some (false, .iload_n 1, 0) := rfl
theorem gi85_56 : gx_ins 85 56 = some (false, .iastore, 0) := rfl
theorem gi85_57 : gx_ins 85 57 = some (false, .aload_n 0, 0) := rfl
theorem gi85_58 : gx_ins 85 58 = some (false, .getfield 19, 0) := rfl
theorem gi85_61 : gx_ins 85 61 = some (false, .aload_n 0, 0) := rfl
theorem gi85_62 : gx_ins 85 62 = some (false, .getfield 84, 0) := rfl
theorem gi85_65 : gx_ins 85 65 = some (false, .iload_n 2, 0) := rfl
theorem gi85_66 : gx_ins 85 66 = some (false, .iastore, 0) := rfl
theorem gi85_67 : gx_ins 85 67 = some (false, .aload_n 0, 0) := rfl
theorem gi85_68 : gx_ins 85 68 = some (false, .getfield 22, 0) := rfl
theorem gi85_71 : gx_ins 85 71 = some (false, .aload_n 0, 0) := rfl
theorem gi85_72 : gx_ins 85 72 = some (false, .getfield 84, 0) := rfl
theorem gi85_75 : gx_ins 85 75 = some (false, .iload_n 3, 0) := rfl
theorem gi85_76 : gx_ins 85 76 = some (false, .iastore, 0) := rfl
theorem gi85_77 : gx_ins 85 77 = some (false, .aload_n 0, 0) := rfl
theorem gi85_78 : gx_ins 85 78 = some (false, .getfield 25, 0) := rfl
theorem gi85_81 : gx_ins 85 81 = some (false, .aload_n 0, 0) := rfl
theorem gi85_82 : gx_ins 85 82 = some (false, .getfield 84, 0) := rfl
theorem gi85_85 : gx_ins 85 85 = some (false, .iload 4, 0) := rfl
theorem gi85_87 : gx_ins 85 87 = some (false, .iastore, 0) := rfl
theorem gi85_88 : gx_ins 85 88 = some (false, .aload_n 0, 0) := rfl
theorem gi85_89 : gx_ins 85 89 = some (false, .getfield 28, 0) := rfl
theorem gi85_92 : gx_ins 85 92 = some (false, .aload_n 0, 0) := rfl
theorem gi85_93 : gx_ins 85 93 = some (false, .getfield 84, 0) := rfl
theorem gi85_96 : gx_ins 85 96 = some (false, .iconst 1, 0) := rfl
theorem gi85_97 : gx_ins 85 97 = some (false, .bastore, 0) := rfl
theorem gi85_98 : gx_ins 85 98 = some (false, .aload_n 0, 0) := rfl
theorem gi85_99 : gx_ins 85 99 = some (false, .dup, 0) := rfl
theorem gi85_100 : gx_ins 85 100 = some (false, .getfield 84, 0) := rfl
theorem gi85_103 : gx_ins 85 103 = some (false, .iconst 1, 0) := rfl
theorem gi85_104 : gx_ins 85 104 = some (false, .iadd, 0) := rfl
theorem gi85_105 : gx_ins 85 105 = some (false, .putfield 84, 0) := rfl
theorem gi85_108 : gx_ins 85 108 = some (false, .aload_n 0, 0) := rfl
theorem gi85_109 : gx_ins 85 109 = some (false, .iconst 0, 0) := rfl
theorem gi85_110 : gx_ins 85 110 = some (false, .putfield 117, 0) := rfl
theorem gi85_113 : gx_ins 85 113 = some (false, .aload_n 0, 0) := rfl
theorem gi85_114 : gx_ins 85 114 = some (false, .getfield 84, 0) := rfl
theorem gi85_117 : gx_ins 85 117 = some (false, .iconst 1, 0) := rfl
theorem gi85_118 : gx_ins 85 118 = some (false, .isub, 0) := rfl
theorem gi85_119 : gx_ins 85 119 = some (false, .ireturn, 0) := rfl
theorem gi86_0 : gx_ins 86 0 = some (false, .aload_n 0, 0) := rfl
theorem gi86_1 : gx_ins 86 1 = some (false, .iload_n 1, 0) := rfl
theorem gi86_2 : gx_ins 86 2 = some (false, .invokevirtual 169, 0) := rfl
theorem gi86_5 : gx_ins 86 5 = some (false, .ifCond .ne 5, 10) := rfl
theorem gi86_8 : gx_ins 86 8 = some (false, .iconst (-1), 0) := rfl
theorem gi86_9 : gx_ins 86 9 = some (false, .ireturn, 0) := rfl
theorem gi86_10 : gx_ins 86 10 = some (false, .iload_n 2, 0) := rfl
theorem gi86_11 : gx_ins 86 11 = some (false, .iload_n 3, 0) := rfl
theorem gi86_12 : gx_ins 86 12 = some (false, .invokestatic 166, 0) := rfl
theorem gi86_15 : gx_ins 86 15 = some (false, .ifCond .ne 6, 21) := rfl
theorem gi86_18 : gx_ins 86 18 = some (false, .bipush (-2), 0) := rfl
theorem gi86_20 : gx_ins 86 20 = some (false, .ireturn, 0) := rfl
theorem gi86_21 : gx_ins 86 21 = some (false, .aload_n 0, 0) := rfl
theorem gi86_22 : gx_ins 86 22 = some (false, .getfield 22, 0) := rfl
theorem gi86_25 : gx_ins 86 25 = some (false, .iload_n 1, 0) := rfl
theorem gi86_26 : gx_ins 86 26 = some (false, .iload_n 2, 0) := rfl
theorem gi86_27 : gx_ins 86 27 = some (false, .iastore, 0) := rfl
theorem gi86_28 : gx_ins 86 28 = some (false, .aload_n 0, 0) := rfl
theorem gi86_29 : gx_ins 86 29 = some (false, .getfield 25, 0) := rfl
theorem gi86_32 : gx_ins 86 32 = some (false, .iload_n 1, 0) := rfl
theorem gi86_33 : gx_ins 86 33 = some (false, .iload_n 3, 0) := rfl
theorem gi86_34 : gx_ins 86 34 = some (false, .iastore, 0) := rfl
theorem gi86_35 : gx_ins 86 35 = some (false, .aload_n 0, 0) := rfl
theorem gi86_36 : gx_ins 86 36 = some (false, .iconst 0, 0) := rfl
theorem gi86_37 : gx_ins 86 37 = some (false, .putfield 117, 0) := rfl
theorem gi86_40 : gx_ins 86 40 = some (false, .iconst 1, 0) := rfl
theorem gi86_41 : gx_ins 86 41 = some (false, .ireturn, 0) := rfl
theorem gi87_0 : gx_ins 87 0 = some (false, .aload_n 0, 0) := rfl
theorem gi87_1 : gx_ins 87 1 = some (false, .iload_n 1, 0) := rfl
theorem gi87_2 : gx_ins 87 2 = some (false, .invokevirtual 169, 0) := rfl
theorem gi87_5 : gx_ins 87 5 = some (false, .ifCond .ne 5, 10) := rfl
theorem gi87_8 : gx_ins 87 8 = some (false, .iconst (-1), 0) := rfl
theorem gi87_9 : gx_ins 87 9 = some (false, .ireturn, 0) := rfl
theorem gi87_10 : gx_ins 87 10 = some (false, .aload_n 0, 0) := rfl
theorem gi87_11 : gx_ins 87 11 = some (false, .getfield 28, 0) := rfl
theorem gi87_14 : gx_ins 87 14 = some (false, .iload_n 1, 0) := rfl
theorem gi87_15 : gx_ins 87 15 = some (false, .iconst 0, 0) := rfl
theorem gi87_16 : gx_ins 87 16 = some (false, .bastore, 0) := rfl
theorem gi87_17 : gx_ins 87 17 = some (false, .aload_n 0, 0) := rfl
theorem gi87_18 : gx_ins 87 18 = some (false, .iconst 0, 0) := rfl
theorem gi87_19 : gx_ins 87 19 = some (false, .putfield 117, 0) := rfl
theorem gi87_22 : gx_ins 87 22 = some (false, .iconst 0, 0) := rfl
theorem gi87_23 : gx_ins 87 23 = some (false, .istore_n 2, 0) := rfl
theorem gi87_24 : gx_ins 87 24 = some (false, .iconst 0, 0) := rfl
theorem gi87_25 : gx_ins 87 25 = some (false, .istore_n 3, 0) := rfl
theorem gi87_26 : gx_ins 87 26 = some (true, .iload_n 3, 0) := rfl
theorem gi87_27 : gx_ins 87 27 = some (false, .aload_n 0, 0) := rfl
theorem gi87_28 : gx_ins 87 28 = some (false, .getfield 84, 0) := rfl
theorem gi87_31 : gx_ins 87 31 = some (false, .if_icmp .ge 26, 57) := rfl
theorem gi87_34 : gx_ins 87 34 = some (false, .iload_n 2, 0) := rfl
theorem gi87_35 : gx_ins 87 35 = some (false, .aload_n 0, 0) := rfl
theorem gi87_36 : gx_ins 87 36 = some (false, .getfield 28, 0) := rfl
theorem gi87_39 : gx_ins 87 39 = some (false, .iload_n 3, 0) := rfl
theorem gi87_40 : gx_ins 87 40 = some (false, .baload, 0) := rfl
theorem gi87_41 : gx_ins 87 41 = some (false, .ifCond .eq 7, 48) := rfl
theorem gi87_44 : gx_ins 87 44 = some (false, .iconst 1, 0) := rfl
theorem gi87_45 : gx_ins 87 45 = some (false, .goto 4, 49) := rfl
theorem gi87_48 : gx_ins 87 48 = some (false, .iconst 0, 0) := rfl
theorem gi87_49 : gx_ins 87 49 = some (false, .iadd, 0) := rfl
theorem gi87_50 : gx_ins 87 50 = some (false, .istore_n 2, 0) := rfl
theorem gi87_51 : gx_ins 87 51 = some (false, .iinc 3 1, 0) := rfl
theorem gi87_54 : gx_ins 87 54 = some (false, .goto (-28), 26) := rfl
theorem gi87_57 : gx_ins 87 57 = some (false, .iload_n 2, 0) := rfl
theorem gi87_58 : gx_ins 87 58 = some (false, .ireturn, 0) := rfl
theorem gi88_0 : gx_ins 88 0 = some (false, .aload_n 0, 0) := rfl
theorem gi88_1 : gx_ins 88 1 = some (false, .getfield 91, 0) := rfl
theorem gi88_4 : gx_ins 88 4 = some (false, .istore_n 1, 0) := rfl
theorem gi88_5 : gx_ins 88 5 = some (false, .aload_n 0, 0) := rfl
theorem gi88_6 : gx_ins 88 6 = some (false, .iconst 0, 0) := rfl
theorem gi88_7 : gx_ins 88 7 = some (false, .putfield 91, 0) := rfl
theorem gi88_10 : gx_ins 88 10 = some (false, .aload_n 0, 0) := rfl
theorem gi88_11 : gx_ins 88 11 = some (false, .iconst 0, 0) := rfl
theorem gi88_12 : gx_ins 88 12 = some (false, .putfield 84, 0) := rfl
theorem gi88_15 : gx_ins 88 15 = some (false, .aload_n 0, 0) := rfl
theorem gi88_16 : gx_ins 88 16 = some (false, .iconst 0, 0) := rfl
theorem gi88_17 : gx_ins 88 17 = some (false, .putfield 117, 0) := rfl
theorem gi88_20 : gx_ins 88 20 = some (false, .iload_n 1, 0) := rfl
theorem gi88_21 : gx_ins 88 21 = some (false, .ireturn, 0) := rfl
theorem gi89_0 : gx_ins 89 0 = some (false, .aload_n 0, 0) := rfl
theorem gi89_1 : gx_ins 89 1 = some (false, .invokevirtual 172, 0) := rfl
theorem gi89_4 : gx_ins 89 4 = some (false, .aload_n 0, 0) := rfl
theorem gi89_5 : gx_ins 89 5 = some (false, .getfield 121, 0) := rfl
theorem gi89_8 : gx_ins 89 8 = some (false, .ifCond .eq 7, 15) := rfl
theorem gi89_11 : gx_ins 89 11 = some (false, .iconst 1, 0) := rfl
theorem gi89_12 : gx_ins 89 12 = some (false, .goto 4, 16) := rfl
theorem gi89_15 : gx_ins 89 15 = some (false, .iconst 0, 0) := rfl
theorem gi89_16 : gx_ins 89 16 = some (false, .ireturn, 0) := rfl
theorem gi90_0 : gx_ins 90 0 = some (false, .iload_n 0, 0) := rfl
theorem gi90_1 : gx_ins 90 1 = some (false, .ifCond .eq 8, 9) := rfl
theorem gi90_4 : gx_ins 90 4 = some (false, .iload_n 0, 0) := rfl
theorem gi90_5 : gx_ins 90 5 = some (false, .iconst 1, 0) := rfl
theorem gi90_6 : gx_ins 90 6 = some (false, .if_icmp .ne 7, 13) := rfl
theorem gi90_9 : gx_ins 90 9 = some (false, .iconst 1, 0) := rfl
theorem gi90_10 : gx_ins 90 10 = some (false, .goto 4, 14) := rfl
theorem gi90_13 : gx_ins 90 13 = some (false, .iconst 0, 0) := rfl
theorem gi90_14 : gx_ins 90 14 = some (false, .ireturn, 0) := rfl
theorem gi91_0 : gx_ins 91 0 = some (false, .iload_n 1, 0) := rfl
theorem gi91_1 : gx_ins 91 1 = some (false, .invokestatic 175, 0) := rfl
theorem gi91_4 : gx_ins 91 4 = some (false, .ifCond .ne 5, 9) := rfl
theorem gi91_7 : gx_ins 91 7 = some (false, .iconst (-1), 0) := rfl
theorem gi91_8 : gx_ins 91 8 = some (false, .ireturn, 0) := rfl
theorem gi91_9 : gx_ins 91 9 = some (false, .aload_n 0, 0) := rfl
theorem gi91_10 : gx_ins 91 10 = some (false, .invokevirtual 172, 0) := rfl
theorem gi91_13 : gx_ins 91 13 = some (false, .aload_n 0, 0) := rfl
theorem gi91_14 : gx_ins 91 14 = some (false, .getfield 121, 0) := rfl
theorem gi91_17 : gx_ins 91 17 = some (false, .ifCond .eq 12, 29) := rfl
theorem gi91_20 : gx_ins 91 20 = some (false, .aload_n 0, 0) := rfl
theorem gi91_21 : gx_ins 91 21 = some (false, .getfield 50, 0) := rfl
theorem gi91_24 : gx_ins 91 24 = some (false, .iload_n 1, 0) := rfl
theorem gi91_25 : gx_ins 91 25 = some (false, .iaload, 0) := rfl
theorem gi91_26 : gx_ins 91 26 = some (false, .goto 5, 31) := rfl
theorem gi91_29 : gx_ins 91 29 = some (false, .bipush (-3), 0) := rfl
theorem gi91_31 : gx_ins 91 31 = some (false, .ireturn, 0) := rfl
theorem gi92_0 : gx_ins 92 0 = some (false, .iload_n 1, 0) := rfl
theorem gi92_1 : gx_ins 92 1 = some (false, .invokestatic 175, 0) := rfl
theorem gi92_4 : gx_ins 92 4 = some (false, .ifCond .eq 11, 15) := rfl
theorem gi92_7 : gx_ins 92 7 = some (false, .aload_n 0, 0) := rfl
theorem gi92_8 : gx_ins 92 8 = some (false, .iload_n 2, 0) := rfl
theorem gi92_9 : gx_ins 92 9 = some (false, .invokevirtual 169, 0) := rfl
theorem gi92_12 : gx_ins 92 12 = some (false, .ifCond .ne 5, 17) := rfl
theorem gi92_15 : gx_ins 92 15 = some (false, .iconst (-1), 0) := rfl
theorem gi92_16 : gx_ins 92 16 = some (false, .ireturn, 0) := rfl
theorem gi92_17 : gx_ins 92 17 = some (false, .aload_n 0, 0) := rfl
theorem gi92_18 : gx_ins 92 18 = some (false, .invokevirtual 172, 0) := rfl
theorem gi92_21 : gx_ins 92 21 = some (false, .aload_n 0, 0) := rfl
theorem gi92_22 : gx_ins 92 22 = some (false, .getfield 121, 0) := rfl
theorem gi92_25 : gx_ins 92 25 = some (false, .ifCond .eq 17, 42) := rfl
theorem gi92_28 : gx_ins 92 28 = some (false, .aload_n 0, 0) := rfl
theorem gi92_29 : gx_ins 92 29 = some (false, .getfield 53, 0) := rfl
theorem gi92_32 : gx_ins 92 32 = some (false, .bipush 40, 0) := rfl
theorem gi92_34 : gx_ins 92 34 = some (false, .iload_n 1, 0) := rfl
theorem gi92_35 : gx_ins 92 35 = some (false, .imul, 0) := rfl
theorem gi92_36 : gx_ins 92 36 = some (false, .iload_n 2, 0) := rfl
theorem gi92_37 : gx_ins 92 37 = some (false, .iadd, 0) := rfl
theorem gi92_38 : gx_ins 92 38 = some (false, .iaload, 0) := rfl
theorem gi92_39 : gx_ins 92 39 = some (false, .goto 5, 44) := rfl
theorem gi92_42 : gx_ins 92 42 = some (false, .bipush (-3), 0) := rfl
theorem gi92_44 : gx_ins 92 44 = some (false, .ireturn, 0) := rfl
theorem gi93_0 : gx_ins 93 0 = some (false, .iload_n 1, 0) := rfl
theorem gi93_1 : gx_ins 93 1 = some (false, .invokestatic 175, 0) := rfl
theorem gi93_4 : gx_ins 93 4 = some (false, .ifCond .eq 11, 15) := rfl
theorem gi93_7 : gx_ins 93 7 = some (false, .aload_n 0, 0) := rfl
theorem gi93_8 : gx_ins 93 8 = some (false, .iload_n 2, 0) := rfl
theorem gi93_9 : gx_ins 93 9 = some (false, .invokevirtual 161, 0) := rfl
theorem gi93_12 : gx_ins 93 12 = some (false, .ifCond .ne 5, 17) := rfl
theorem gi93_15 : gx_ins 93 15 = some (false, .iconst (-1), 0) := rfl
theorem gi93_16 : gx_ins 93 16 = some (false, .ireturn, 0) := rfl
theorem gi93_17 : gx_ins 93 17 = some (false, .aload_n 0, 0) := rfl
theorem gi93_18 : gx_ins 93 18 = some (false, .invokevirtual 172, 0) := rfl
theorem gi93_21 : gx_ins 93 21 = some (false, .aload_n 0, 0) := rfl
theorem gi93_22 : gx_ins 93 22 = some (false, .getfield 121, 0) := rfl
theorem gi93_25 : gx_ins 93 25 = some (false, .ifCond .ne 6, 31) := rfl
theorem gi93_28 : gx_ins 93 28 = some (false, .bipush (-3), 0) := rfl
theorem gi93_30 : gx_ins 93 30 = some (false, .ireturn, 0) := rfl
theorem gi93_31 : gx_ins 93 31 = some (false, .aload_n 0, 0) := rfl
theorem gi93_32 : gx_ins 93 32 = some (false, .iload_n 1, 0) := rfl
theorem gi93_33 : gx_ins 93 33 = some (false, .iload_n 2, 0) := rfl
theorem gi93_34 : gx_ins 93 34 = some (false, .invokevirtual 141, 0) := rfl
theorem gi93_37 : gx_ins 93 37 = some (false, .istore_n 3, 0) := rfl
theorem gi93_38 : gx_ins 93 38 = some (false, .aload_n 0, 0) := rfl
theorem gi93_39 : gx_ins 93 39 = some (false, .iload_n 1, 0) := rfl
theorem gi93_40 : gx_ins 93 40 = some (false, .iload_n 2, 0) := rfl
theorem gi93_41 : gx_ins 93 41 = some (false, .invokevirtual 137, 0) := rfl
theorem gi93_44 : gx_ins 93 44 = some (false, .istore 4, 0) := rfl
theorem gi93_46 : gx_ins 93 46 = some (false, .iload_n 3, 0) := rfl
theorem gi93_47 : gx_ins 93 47 = some (false, .iload 4, 0) := rfl
theorem gi93_49 : gx_ins 93 49 = some (false, .if_icmp .le 7, 56) := rfl
theorem gi93_52 : gx_ins 93 52 = some (false, .iload_n 3, 0) := rfl
theorem gi93_53 : gx_ins 93 53 = some (false, .goto 5, 58) := rfl
theorem gi93_56 : gx_ins 93 56 = some (false, .iload 4, 0) := rfl
theorem gi93_58 : gx_ins 93 58 = some (false, .ireturn, 0) := rfl
theorem gi94_0 : gx_ins 94 0 = some (false, .aload_n 0, 0) := rfl
theorem gi94_1 : gx_ins 94 1 = some (false, .iload_n 1, 0) := rfl
theorem gi94_2 : gx_ins 94 2 = some (false, .invokevirtual 161, 0) := rfl
theorem gi94_5 : gx_ins 94 5 = some (false, .ifCond .ne 5, 10) := rfl
theorem gi94_8 : gx_ins 94 8 = some (false, .iconst (-1), 0) := rfl
theorem gi94_9 : gx_ins 94 9 = some (false, .ireturn, 0) := rfl
theorem gi94_10 : gx_ins 94 10 = some (false, .aload_n 0, 0) := rfl
theorem gi94_11 : gx_ins 94 11 = some (false, .getfield 7, 0) := rfl
theorem gi94_14 : gx_ins 94 14 = some (false, .iload_n 1, 0) := rfl
theorem gi94_15 : gx_ins 94 15 = some (false, .iaload, 0) := rfl
theorem gi94_16 : gx_ins 94 16 = some (false, .ifCond .eq 6, 22) := rfl
theorem gi94_19 : gx_ins 94 19 = some (false, .bipush (-2), 0) := rfl
theorem gi94_21 : gx_ins 94 21 = some (false, .ireturn, 0) := rfl
theorem gi94_22 : gx_ins 94 22 = some (false, .aload_n 0, 0) := rfl
theorem gi94_23 : gx_ins 94 23 = some (false, .invokevirtual 172, 0) := rfl
theorem gi94_26 : gx_ins 94 26 = some (false, .aload_n 0, 0) := rfl
theorem gi94_27 : gx_ins 94 27 = some (false, .getfield 121, 0) := rfl
theorem gi94_30 : gx_ins 94 30 = some (false, .ifCond .ne 6, 36) := rfl
theorem gi94_33 : gx_ins 94 33 = some (false, .bipush (-3), 0) := rfl
theorem gi94_35 : gx_ins 94 35 = some (false, .ireturn, 0) := rfl
theorem gi94_36 : gx_ins 94 36 = some (false, .aload_n 0, 0) := rfl
theorem gi94_37 : gx_ins 94 37 = some (false, .invokevirtual 107, 0) := rfl
theorem gi94_40 : gx_ins 94 40 = some (false, .aload_n 0, 0) := rfl
theorem gi94_41 : gx_ins 94 41 = some (false, .getfield 38, 0) := rfl
theorem gi94_44 : gx_ins 94 44 = some (false, .iload_n 1, 0) := rfl
theorem gi94_45 : gx_ins 94 45 = some (false, .iload_n 2, 0) := rfl
theorem gi94_46 : gx_ins 94 46 = some (false, .iastore, 0) := rfl
theorem gi94_47 : gx_ins 94 47 = some (false, .aload_n 0, 0) := rfl
theorem gi94_48 : gx_ins 94 48 = some (false, .aload_n 0, 0) := rfl
theorem gi94_49 : gx_ins 94 49 = some (false, .getfield 50, 0) := rfl
theorem gi94_52 : gx_ins 94 52 = some (false, .iconst 0, 0) := rfl
theorem gi94_53 : gx_ins 94 53 = some (false, .iaload, 0) := rfl
theorem gi94_54 : gx_ins 94 54 = some (false, .iconst 1, 0) := rfl
theorem gi94_55 : gx_ins 94 55 = some (false, .iadd, 0) := rfl
theorem gi94_56 : gx_ins 94 56 = some (false, .ldc 94, 0) := rfl
theorem gi94_58 : gx_ins 94 58 = some (false, .invokevirtual 103, 0) := rfl
theorem gi94_61 : gx_ins 94 61 = some (false, .ifCond .eq 7, 68) := rfl
theorem gi94_64 : gx_ins 94 64 = some (false, .iconst 1, 0) := rfl
theorem gi94_65 : gx_ins 94 65 = some (false, .goto 4, 69) := rfl
theorem gi94_68 : gx_ins 94 68 = some (false, .iconst 0, 0) := rfl
theorem gi94_69 : gx_ins 94 69 = some (false, .ireturn, 0) := rfl
theorem gi95_0 : gx_ins 95 0 = some (false, .aload_n 0, 0) := rfl
theorem gi95_1 : gx_ins 95 1 = some (false, .iload_n 1, 0) := rfl
theorem gi95_2 : gx_ins 95 2 = some (false, .iconst 2, 0) := rfl
theorem gi95_3 : gx_ins 95 3 = some (false, .invokevirtual 178, 0) := rfl
theorem gi95_6 : gx_ins 95 6 = some (false, .ireturn, 0) := rfl
theorem gi96_0 : gx_ins 96 0 = some (false, .aload_n 0, 0) := rfl
theorem gi96_1 : gx_ins 96 1 = some (false, .iload_n 1, 0) := rfl
theorem gi96_2 : gx_ins 96 2 = some (false, .iconst 1, 0) := rfl
theorem gi96_3 : gx_ins 96 3 = some (false, .invokevirtual 178, 0) := rfl
theorem gi96_6 : gx_ins 96 6 = some (false, .ireturn, 0) := rfl
theorem gi97_0 : gx_ins 97 0 = some (false, .aload_n 0, 0) := rfl
theorem gi97_1 : gx_ins 97 1 = some (false, .iload_n 1, 0) := rfl
theorem gi97_2 : gx_ins 97 2 = some (false, .invokevirtual 169, 0) := rfl
theorem gi97_5 : gx_ins 97 5 = some (false, .ifCond .ne 5, 10) := rfl
theorem gi97_8 : gx_ins 97 8 = some (false, .iconst (-1), 0) := rfl
theorem gi97_9 : gx_ins 97 9 = some (false, .ireturn, 0) := rfl
theorem gi97_10 : gx_ins 97 10 = some (false, .aload_n 0, 0) := rfl
theorem gi97_11 : gx_ins 97 11 = some (false, .invokevirtual 172, 0) := rfl
theorem gi97_14 : gx_ins 97 14 = some (false, .aload_n 0, 0) := rfl
theorem gi97_15 : gx_ins 97 15 = some (false, .getfield 121, 0) := rfl
theorem gi97_18 : gx_ins 97 18 = some (false, .ifCond .ne 6, 24) := rfl
theorem gi97_21 : gx_ins 97 21 = some (false, .bipush (-3), 0) := rfl
theorem gi97_23 : gx_ins 97 23 = some (false, .ireturn, 0) := rfl
theorem gi97_24 : gx_ins 97 24 = some (false, .aload_n 0, 0) := rfl
theorem gi97_25 : gx_ins 97 25 = some (false, .invokevirtual 107, 0) := rfl
theorem gi97_28 : gx_ins 97 28 = some (false, .aload_n 0, 0) := rfl
theorem gi97_29 : gx_ins 97 29 = some (false, .getfield 35, 0) := rfl
theorem gi97_32 : gx_ins 97 32 = some (false, .iload_n 1, 0) := rfl
theorem gi97_33 : gx_ins 97 33 = some (false, .dup2, 0) := rfl
theorem gi97_34 : gx_ins 97 34 = some (false, .iaload, 0) := rfl
theorem gi97_35 : gx_ins 97 35 = some (false, .iconst 1, 0) := rfl
theorem gi97_36 : gx_ins 97 36 = some (false, .iadd, 0) := rfl
theorem gi97_37 : gx_ins 97 37 = some (false, .iastore, 0) := rfl
theorem gi97_38 : gx_ins 97 38 = some (false, .aload_n 0, 0) := rfl
theorem gi97_39 : gx_ins 97 39 = some (false, .aload_n 0, 0) := rfl
theorem gi97_40 : gx_ins 97 40 = some (false, .getfield 50, 0) := rfl
theorem gi97_43 : gx_ins 97 43 = some (false, .iconst 0, 0) := rfl
theorem gi97_44 : gx_ins 97 44 = some (false, .iaload, 0) := rfl
theorem gi97_45 : gx_ins 97 45 = some (false, .iconst 1, 0) := rfl
theorem gi97_46 : gx_ins 97 46 = some (false, .iadd, 0) := rfl
theorem gi97_47 : gx_ins 97 47 = some (false, .ldc 94, 0) := rfl
theorem gi97_49 : gx_ins 97 49 = some (false, .invokevirtual 103, 0) := rfl
theorem gi97_52 : gx_ins 97 52 = some (false, .ifCond .eq 7, 59) := rfl
theorem gi97_55 : gx_ins 97 55 = some (false, .iconst 1, 0) := rfl
theorem gi97_56 : gx_ins 97 56 = some (false, .goto 4, 60) := rfl
theorem gi97_59 : gx_ins 97 59 = some (false, .iconst 0, 0) := rfl
theorem gi97_60 : gx_ins 97 60 = some (false, .ireturn, 0) := rfl
theorem gi98_0 : gx_ins 98 0 = some (false, .aload_n 0, 0) := rfl
theorem gi98_1 : gx_ins 98 1 = some (false, .invokevirtual 172, 0) := rfl
theorem gi98_4 : gx_ins 98 4 = some (false, .aload_n 0, 0) := rfl
theorem gi98_5 : gx_ins 98 5 = some (false, .getfield 121, 0) := rfl
theorem gi98_8 : gx_ins 98 8 = some (false, .ifCond .eq 6, 14) := rfl
theorem gi98_11 : gx_ins 98 11 = some (false, .bipush (-2), 0) := rfl
theorem gi98_13 : gx_ins 98 13 = some (false, .ireturn, 0) := rfl
theorem gi98_14 : gx_ins 98 14 = some (false, .iconst 0, 0) := rfl
theorem gi98_15 : gx_ins 98 15 = some (false, .istore_n 2, 0) := rfl
theorem gi98_16 : gx_ins 98 16 = some (false, .iconst 0, 0) := rfl
theorem gi98_17 : gx_ins 98 17 = some (false, .istore_n 3, 0) := rfl
theorem gi98_18 : gx_ins 98 18 = some (true, .iload_n 3, 0) := rfl
theorem gi98_19 : gx_ins 98 19 = some (false, .aload_n 0, 0) := rfl
theorem gi98_20 : gx_ins 98 20 = some (false, .getfield 84, 0) := rfl
theorem gi98_23 : gx_ins 98 23 = some (false, .if_icmp .ge 28, 51) := rfl
theorem gi98_26 : gx_ins 98 26 = some (false, .aload_n 0, 0) := rfl
theorem gi98_27 : gx_ins 98 27 = some (false, .getfield 56, 0) := rfl
theorem gi98_30 : gx_ins 98 30 = some (false, .iload_n 3, 0) := rfl
theorem gi98_31 : gx_ins 98 31 = some (false, .baload, 0) := rfl
theorem gi98_32 : gx_ins 98 32 = some (false, .ifCond .eq 13, 45) := rfl
theorem gi98_35 : gx_ins 98 35 = some (false, .iload_n 2, 0) := rfl
theorem gi98_36 : gx_ins 98 36 = some (false, .iload_n 1, 0) := rfl
theorem gi98_37 : gx_ins 98 37 = some (false, .if_icmp .ne 5, 42) := rfl
theorem gi98_40 : gx_ins 98 40 = some (false, .iload_n 3, 0) := rfl
theorem gi98_41 : gx_ins 98 41 = some (false, .ireturn, 0) := rfl
theorem gi98_42 : gx_ins 98 42 = some (false, .iinc 2 1, 0) := rfl
theorem gi98_45 : gx_ins 98 45 = some (false, .iinc 3 1, 0) := rfl
theorem gi98_48 : gx_ins 98 48 = some (false, .goto (-30), 18) := rfl
theorem gi98_51 : gx_ins 98 51 = some (false, .iconst (-1), 0) := rfl
theorem gi98_52 : gx_ins 98 52 = some (false, .ireturn, 0) := rfl
theorem gi99_0 : gx_ins 99 0 = some (false, .aload_n 0, 0) := rfl
theorem gi99_1 : gx_ins 99 1 = some (false, .invokevirtual 172, 0) := rfl
theorem gi99_4 : gx_ins 99 4 = some (false, .aload_n 0, 0) := rfl
theorem gi99_5 : gx_ins 99 5 = some (false, .getfield 121, 0) := rfl
theorem gi99_8 : gx_ins 99 8 = some (false, .ifCond .eq 10, 18) := rfl
theorem gi99_11 : gx_ins 99 11 = some (false, .aload_n 0, 0) := rfl
theorem gi99_12 : gx_ins 99 12 = some (false, .getfield 134, 0) := rfl
theorem gi99_15 : gx_ins 99 15 = some (false, .goto 5, 20) := rfl
theorem gi99_18 : gx_ins 99 18 = some (false, .bipush (-3), 0) := rfl
theorem gi99_20 : gx_ins 99 20 = some (false, .ireturn, 0) := rfl
theorem gi100_0 : gx_ins 100 0 = some (false, .aload_n 0, 0) := rfl
theorem gi100_1 : gx_ins 100 1 = some (false, .invokevirtual 172, 0) := rfl
theorem gi100_4 : gx_ins 100 4 = some (false, .aload_n 0, 0) := rfl
theorem gi100_5 : gx_ins 100 5 = some (false, .getfield 121, 0) := rfl
theorem gi100_8 : gx_ins 100 8 = some (false, .ifCond .ne 6, 14) := rfl
theorem gi100_11 : gx_ins 100 11 = some (false, .bipush (-3), 0) := rfl
theorem gi100_13 : gx_ins 100 13 = some (false, .ireturn, 0) := rfl
theorem gi100_14 : gx_ins 100 14 = some (false, .iload_n 1, 0) := rfl
theorem gi100_15 : gx_ins 100 15 = some (false, .ifCond .lt 11, 26) := rfl
theorem gi100_18 : gx_ins 100 18 = some (false, .iload_n 1, 0) := rfl
theorem gi100_19 : gx_ins 100 19 = some (false, .aload_n 0, 0) := rfl
theorem gi100_20 : gx_ins 100 20 = some (false, .getfield 134, 0) := rfl
theorem gi100_23 : gx_ins 100 23 = some (false, .if_icmp .lt 5, 28) := rfl
theorem gi100_26 : gx_ins 100 26 = some (false, .iconst (-1), 0) := rfl
theorem gi100_27 : gx_ins 100 27 = some (false, .ireturn, 0) := rfl
theorem gi100_28 : gx_ins 100 28 = some (false, .iload_n 2, 0) := rfl
theorem gi100_29 : gx_ins 100 29 = some (false, .ifCond .ge 6, 35) := rfl
theorem gi100_32 : gx_ins 100 32 = some (false, .bipush (-2), 0) := rfl
theorem gi100_34 : gx_ins 100 34 = some (false, .ireturn, 0) := rfl
theorem gi100_35 : gx_ins 100 35 = some (false, .iload_n 2, 0) := rfl
theorem gi100_36 : gx_ins 100 36 = some (false, .ifCond .ne 12, 48) := rfl
theorem gi100_39 : gx_ins 100 39 = some (false, .aload_n 0, 0) := rfl
theorem gi100_40 : gx_ins 100 40 = some (false, .getfield 59, 0) := rfl
theorem gi100_43 : gx_ins 100 43 = some (false, .iload_n 1, 0) := rfl
theorem gi100_44 : gx_ins 100 44 = some (false, .iaload, 0) := rfl
theorem gi100_45 : gx_ins 100 45 = some (false, .goto 46, 91) := rfl
theorem gi100_48 : gx_ins 100 48 = some (false, .iload_n 2, 0) := rfl
theorem gi100_49 : gx_ins 100 49 = some (false, .iconst 1, 0) := rfl
theorem gi100_50 : gx_ins 100 50 = some (false, .if_icmp .ne 12, 62) := rfl
theorem gi100_53 : gx_ins 100 53 = some (false, .aload_n 0, 0) := rfl
theorem gi100_54 : gx_ins 100 54 = some (false, .getfield 62, 0) := rfl
theorem gi100_57 : gx_ins 100 57 = some (false, .iload_n 1, 0) := rfl
theorem gi100_58 : gx_ins 100 58 = some (false, .iaload, 0) := rfl
theorem gi100_59 : gx_ins 100 59 = some (false, .goto 32, 91) := rfl
theorem gi100_62 : gx_ins 100 62 = some (false, .iload_n 2, 0) := rfl
theorem gi100_63 : gx_ins 100 63 = some (false, .iconst 2, 0) := rfl
theorem gi100_64 : gx_ins 100 64 = some (false, .isub, 0) := rfl
theorem gi100_65 : gx_ins 100 65 = some (false, .aload_n 0, 0) := rfl
theorem gi100_66 : gx_ins 100 66 = some (false, .getfield 62, 0) := rfl
theorem gi100_69 : gx_ins 100 69 = some (false, .iload_n 1, 0) := rfl
theorem gi100_70 : gx_ins 100 70 = some (false, .iaload, 0) := rfl
theorem gi100_71 : gx_ins 100 71 = some (false, .if_icmp .ge 19, 90) := rfl
theorem gi100_74 : gx_ins 100 74 = some (false, .aload_n 0, 0) := rfl
theorem gi100_75 : gx_ins 100 75 = some (false, .getfield 65, 0) := rfl
theorem gi100_78 : gx_ins 100 78 = some (false, .bipush 10, 0) := rfl
theorem gi100_80 : gx_ins 100 80 = some (false, .iload_n 1, 0) := rfl
theorem gi100_81 : gx_ins 100 81 = some (false, .imul, 0) := rfl
theorem gi100_82 : gx_ins 100 82 = some (false, .iload_n 2, 0) := rfl
theorem gi100_83 : gx_ins 100 83 = some (false, .iadd, 0) := rfl
theorem gi100_84 : gx_ins 100 84 = some (false, .iconst 2, 0) := rfl
theorem gi100_85 : gx_ins 100 85 = some (false, .isub, 0) := rfl
theorem gi100_86 : gx_ins 100 86 = some (false, .iaload, 0) := rfl
theorem gi100_87 : gx_ins 100 87 = some (false, .goto 4, 91) := rfl
theorem gi100_90 : gx_ins 100 90 = some (false, .iconst (-1), 0) := rfl
theorem gi100_91 : gx_ins 100 91 = some (false, .ireturn, 0) := rfl
theorem gi101_0 : gx_ins 101 0 = some (false, .iload_n 0, 0) := rfl
theorem gi101_1 : gx_ins 101 1 = some (false, .ifCond .ge 8, 9) := rfl
theorem gi101_4 : gx_ins 101 4 = some (false, .iload_n 0, 0) := rfl
theorem gi101_5 : gx_ins 101 5 = some (false, .ineg, 0) := rfl
theorem gi101_6 : gx_ins 101 6 = some (false, .goto 4, 10) := rfl
theorem gi101_9 : gx_ins 101 9 = some (false, .iload_n 0, 0) := rfl
theorem gi101_10 : gx_ins 101 10 = some (false, .ireturn, 0) := rfl
theorem gi102_0 : gx_ins 102 0 = some (false, .iload_n 0, 0) := rfl
theorem gi102_1 : gx_ins 102 1 = some (false, .iload_n 1, 0) := rfl
theorem gi102_2 : gx_ins 102 2 = some (false, .if_icmp .lt 7, 9) := rfl
theorem gi102_5 : gx_ins 102 5 = some (false, .iload_n 0, 0) := rfl
theorem gi102_6 : gx_ins 102 6 = some (false, .goto 4, 10) := rfl
theorem gi102_9 : gx_ins 102 9 = some (false, .iload_n 1, 0) := rfl
theorem gi102_10 : gx_ins 102 10 = some (false, .ireturn, 0) := rfl
theorem gi103_0 : gx_ins 103 0 = some (false, .iload_n 0, 0) := rfl
theorem gi103_1 : gx_ins 103 1 = some (false, .iload_n 1, 0) := rfl
theorem gi103_2 : gx_ins 103 2 = some (false, .if_icmp .gt 7, 9) := rfl
theorem gi103_5 : gx_ins 103 5 = some (false, .iload_n 0, 0) := rfl
theorem gi103_6 : gx_ins 103 6 = some (false, .goto 4, 10) := rfl
theorem gi103_9 : gx_ins 103 9 = some (false, .iload_n 1, 0) := rfl
theorem gi103_10 : gx_ins 103 10 = some (false, .ireturn, 0) := rfl
theorem gi104_0 : gx_ins 104 0 = some (false, .iconst 0, 0) := rfl
theorem gi104_1 : gx_ins 104 1 = some (false, .istore_n 2, 0) := rfl
theorem gi104_2 : gx_ins 104 2 = some (false, .aload_n 0, 0) := rfl
theorem gi104_3 : gx_ins 104 3 = some (false, .arraylength, 0) := rfl
theorem gi104_4 : gx_ins 104 4 = some (false, .istore_n 3, 0) := rfl
theorem gi104_5 : gx_ins 104 5 = some (true, .iload_n 2, 0) := rfl
theorem gi104_6 : gx_ins 104 6 = some (false, .iload_n 3, 0) := rfl
theorem gi104_7 : gx_ins 104 7 = some (false, .if_icmp .ge 13, 20) := rfl
theorem gi104_10 : gx_ins 104 10 = some (false, .aload_n 0, 0) := rfl
theorem gi104_11 : gx_ins 104 11 = some (false, .iload_n 2, 0) := rfl
theorem gi104_12 : gx_ins 104 12 = some (false, .iload_n 1, 0) := rfl
theorem gi104_13 : gx_ins 104 13 = some (false, .iastore, 0) := rfl
theorem gi104_14 : gx_ins 104 14 = some (false, .iinc 2 1, 0) := rfl
theorem gi104_17 : gx_ins 104 17 = some (false, .goto (-12), 5) := rfl
theorem gi104_20 : gx_ins 104 20 = some (false, .return_, 0) := rfl
end
section
/-! Constructors: printed by wip/genctor.py. -/
section GXA
variable {p : Program} {l : Launch} {e : Env} {R : Room} {s : State} {m : MethodId} {args : Array Value} {below : List Frame} {meth : Method} {c : Code} {H : Heap} {locs : List Loc} {cells slots : Nat} {Q : State → Prop}
variable {cc : ByteArray} {pc : Nat} {ls : Array Slot} {rest : List Value} {D : va_G} {A : Nat → Prop} {ws : va_W} {H0 : Heap} {cA : FieldType → ClassId}
theorem gx_raI (hK : va_K D gx_cl (gx_tys cA) s) : ∀ k, va_RA s k .int → k = cA .int := fun k h => Option.some.inj (h.symm.trans (hK.2 0 _ rfl).2)
theorem gx_raZ (hK : va_K D gx_cl (gx_tys cA) s) : ∀ k, va_RA s k .boolean → k = cA .boolean := fun k h => Option.some.inj (h.symm.trans (hK.2 1 _ rfl).2)
theorem gx_raA (hK : va_K D gx_cl (gx_tys cA) s) : ∀ k, va_RA s k (.array .int) → k = cA (.array .int) := fun k h => Option.some.inj (h.symm.trans (hK.2 2 _ rfl).2)
/-- a new array of numbers -/
theorem gx_na (hexec : p.tables.exec = Jvm.exec) (hb : c.code = cc) {atype : ArrayType} {ty : FieldType} (hty : newarray.typeOf atype = ty) (harr : (Cond.arrayClass ty).before args s = true) (hz : defaultValue ty = .int 0) (hra : ∀ k, va_RA s k ty → k = cA ty)
    (hK : va_K D gx_cl (gx_tys cA) s) (hP : va_P D gx_cl ws H) (hD : va_D A ws) (hS : va_S A H0 H locs) (hA : ∀ q, H0.size ≤ q → A q) {n : Int32} (N : Nat) (hn : ¬ n < 0) (hN : n.toNatClampNeg = N) (hbytes : N * componentBytes ty ≤ 536870912) (hcells : cells + 1 ≤ R.cells) (hslots : slots + N ≤ R.slots) (hdg : decode cc pc = .ok (.newarray atype, 2))
    (kk : ∀ (q : Nat) (H1 : Heap), va_P D gx_cl (ws ++ [(q, .inl (cA ty, N, .inl (fun _ => 0)))]) H1 → va_D A (ws ++ [(q, .inl (cA ty, N, .inl (fun _ => 0)))]) → va_S A H0 H1 locs → W p l e R s m args below meth c H1 locs (cells + 1) (slots + N) Q (F0 m (pc + 2) ls (.ref q :: rest))) : W p l e R s m args below meth c H locs cells slots Q (F0 m pc ls (.int n :: rest)) := by
  refine va_newa (a0 := (N, .inl (fun _ => 0))) hexec hb (atype := atype) (by rw [hty]; exact harr) hty hK hP hD hS hA (fun cB => ?_) hn hN hbytes hcells hslots hdg (fun q cB H1 hK1 hP1 hD1 hS1 => ?_)
  · rw [hz]; rfl
  · have e1 : cB = cA ty := hra cB ((hK1.2 3 (cB, ty) rfl).2)
    subst e1
    exact kk q H1 hP1 hD1 hS1
end GXA
theorem gx_oi : Cond.instanceMethod objectInit ∈ gx_TBL := gx_in1 15 rfl rfl
theorem gx_oc : Cond.code objectInit ⟨#[0xb1]⟩ 1 none ∈ gx_TBL := gx_in1 16 rfl rfl
theorem gx_aI : Cond.arrayClass .int ∈ gx_TBL := gx_in1 67 rfl rfl
theorem gx_aZ : Cond.arrayClass .boolean ∈ gx_TBL := gx_in1 68 rfl rfl
def gy_Graph : MethodName := ⟨"GreatestFlow$Graph", "<init>", "()V"⟩
def gw_Graph : List Cond := .code gy_Graph prog_2_method_1_code 1 none :: gx_TBL
theorem gw_Graph_in : Cond.code gy_Graph prog_2_method_1_code 1 none ∈ gx_TBL := gx_in1 21 rfl rfl
/-- the cells behind GreatestFlow$Graph() -/
abbrev gz_Graph (cA : FieldType → ClassId) (h0 : Nat) (u : Nat → Nat) : va_W := [(h0, .inr (0, [.ref (u 0), .ref (u 1), .ref (u 2), .ref (u 3), .ref (u 4), .ref (u 5), .ref (u 6), .int 0, .int 0, .int 0])), (u 0, .inl (cA .int, 10, .inl (fun _ => 0))), (u 1, .inl (cA .int, 10, .inl (fun _ => 0))), (u 2, .inl (cA .int, 40, .inl (fun _ => 0))), (u 3, .inl (cA .int, 40, .inl (fun _ => 0))), (u 4, .inl (cA .int, 40, .inl (fun _ => 0))), (u 5, .inl (cA .int, 40, .inl (fun _ => 0))), (u 6, .inl (cA .boolean, 40, .inl (fun _ => 0)))]
set_option maxHeartbeats 4000000 in
set_option maxRecDepth 100000 in
theorem gc_Graph (l : Launch) (D : va_G) (cA : FieldType → ClassId) (h0 sz : Nat) : Met l gy_Graph gw_Graph ({ frames := 1, cells := 7, slots := 220, locals := 12 }) (va_Pc [.ref h0] (fun U => U.heap.size = sz ∧ va_P D gx_cl [(h0, .inr (0, [.null, .null, .null, .null, .null, .null, .null, .int 0, .int 0, .int 0]))] U.heap ∧ va_K D gx_cl (gx_tys cA) U ∧ va_D (fun _ => True) [(h0, .inr (0, [.null, .null, .null, .null, .null, .null, .null, .int 0, .int 0, .int 0]))])) (va_Qv (fun _ : Nat → Nat => True) (fun u t => va_P D gx_cl (gz_Graph cA h0 u) t.heap ∧ va_K D gx_cl (gx_tys cA) t ∧ va_D (va_A [(h0, .inr (0, [.null, .null, .null, .null, .null, .null, .null, .int 0, .int 0, .int 0]))] sz) (gz_Graph cA h0 u)) (va_A [(h0, .inr (0, [.null, .null, .null, .null, .null, .null, .null, .int 0, .int 0, .int 0]))] sz)) 7 220 (va_A [(h0, .inr (0, [.null, .null, .null, .null, .null, .null, .null, .int 0, .int 0, .int 0]))] sz) := by
  refine Met.ofW (cc := prog_2_method_1_code) (maxL := 1) (ret := none) (by decide) rfl ?_
  intro p e s m args below meth c s₁ B hml hv
  obtain ⟨rfl, hsz, hP, hK, hD0⟩ := hv
  have hx := B.exec
  have hb := B.bytes
  have hr := B.returns
  have hts := atoms_spec (ws := gw_Graph) B.pre
  have htb : ∀ w ∈ gx_TBL, w.before #[Value.ref h0] s = true := fun w hw => hts w (List.mem_cons_of_mem _ hw)
  have hown : s.vm.findClass gR0 = some m.cls := findClass_of_methodNamed B.named
  have hlocks := B.notSynchronized
  have hin : meth.name = "<init>" := (name_of_methodNamed B.named B.method).1
  subst hsz
  have hD := hD0.self (sz := s.heap.size)
  generalize hAe : va_A [(h0, .inr (0, [.null, .null, .null, .null, .null, .null, .null, .int 0, .int 0, .int 0]))] s.heap.size = A at hD ⊢
  have hA : ∀ q : Nat, s.heap.size ≤ q → A q := fun q h => by rw [← hAe]; exact Or.inr h
  have hS : va_S A s.heap s.heap [] := va_S.rf
  have hl := lv_entry ([.ref h0]) (n := 1) (Nat.le_of_ble_eq_true rfl)
  rw [lg_entry_eq]
  generalize (lg_sl ([.ref h0]) ++ List.replicate (1 - (lg_sl ([.ref h0])).length) Slot.unset).toArray = ls at hl ⊢
  have hl : lv_has ls 1 [(0, .ref h0)] := hl
  refine lv_aload_n hx hb (show decode prog_2_method_1_code 0 = .ok (.aload_n 0, 1) by decide +kernel) rfl (lv_at hl 0 rfl) ?_
  refine W.objInit hx hb hown (htb _ (show Cond.methodLink gR0 3 objectInit ∈ gx_TBL from gx_in1 22 rfl rfl)) (htb _ gx_oi) (htb _ gx_oc) rfl (by rw [hml]; exact hl.1) rfl (show decode prog_2_method_1_code 1 = .ok (.invokespecial 3, 3) by decide +kernel) (Nat.le_of_ble_eq_true rfl) (Nat.le_of_ble_eq_true rfl) ?_
  refine W.eq (g2 := F0 m 4 ls []) rfl ?_
  refine lv_aload_n hx hb (show decode prog_2_method_1_code 4 = .ok (.aload_n 0, 1) by decide +kernel) rfl (lv_at hl 0 rfl) ?_
  refine lv_bipush (v := 10) hx hb (show decode prog_2_method_1_code 5 = .ok (.bipush 10, 2) by decide +kernel) (by decide) ?_
  refine gx_na (cA := cA) hx hb (ty := .int) rfl (htb _ gx_aI) rfl (gx_raI hK) hK hP hD hS hA 10 (by decide) (by decide) (by decide) (Nat.le_of_ble_eq_true rfl) (Nat.le_of_ble_eq_true rfl) (show decode prog_2_method_1_code 7 = .ok (.newarray .int, 2) by decide +kernel) (fun q0 H hP hD hS => ?_)
  have hP : va_P D gx_cl [(h0, .inr (0, [.null, .null, .null, .null, .null, .null, .null, .int 0, .int 0, .int 0])), (q0, .inl (cA .int, 10, .inl (fun _ => 0)))] H := hP
  have hD : va_D A [(h0, .inr (0, [.null, .null, .null, .null, .null, .null, .null, .int 0, .int 0, .int 0])), (q0, .inl (cA .int, 10, .inl (fun _ => 0)))] := hD
  refine W.cs (cells' := 1) (slots' := 10) rfl rfl ?_
  refine va_putF (D := D) (ci := 0) (v := .ref q0) (ty := .array .int) (C := gR0) (T := gT0) (N := 10) hx hb htb gx_lay0 gY0 gY0_ok gN0 hown hK hP hD hS 0 rfl rfl 0 (by decide) (htb _ (show Cond.fieldLink gR0 9 "GreatestFlow$Graph" "kinds" "[I" ∈ gx_TBL from gx_in1 23 rfl rfl)) (fun _ h9 => h9) rfl hin rfl (by decide +kernel) rfl rfl (Nat.le_of_ble_eq_true rfl) (show decode prog_2_method_1_code 9 = .ok (.putfield 9, 3) by decide +kernel) (fun H locs hP hD hS => ?_)
  have hP : va_P D gx_cl [(h0, .inr (0, [.ref q0, .null, .null, .null, .null, .null, .null, .int 0, .int 0, .int 0])), (q0, .inl (cA .int, 10, .inl (fun _ => 0)))] H := hP
  have hD : va_D A [(h0, .inr (0, [.ref q0, .null, .null, .null, .null, .null, .null, .int 0, .int 0, .int 0])), (q0, .inl (cA .int, 10, .inl (fun _ => 0)))] := hD
  refine lv_aload_n hx hb (show decode prog_2_method_1_code 12 = .ok (.aload_n 0, 1) by decide +kernel) rfl (lv_at hl 0 rfl) ?_
  refine lv_bipush (v := 10) hx hb (show decode prog_2_method_1_code 13 = .ok (.bipush 10, 2) by decide +kernel) (by decide) ?_
  refine gx_na (cA := cA) hx hb (ty := .int) rfl (htb _ gx_aI) rfl (gx_raI hK) hK hP hD hS hA 10 (by decide) (by decide) (by decide) (Nat.le_of_ble_eq_true rfl) (Nat.le_of_ble_eq_true rfl) (show decode prog_2_method_1_code 15 = .ok (.newarray .int, 2) by decide +kernel) (fun q1 H hP hD hS => ?_)
  have hP : va_P D gx_cl [(h0, .inr (0, [.ref q0, .null, .null, .null, .null, .null, .null, .int 0, .int 0, .int 0])), (q0, .inl (cA .int, 10, .inl (fun _ => 0))), (q1, .inl (cA .int, 10, .inl (fun _ => 0)))] H := hP
  have hD : va_D A [(h0, .inr (0, [.ref q0, .null, .null, .null, .null, .null, .null, .int 0, .int 0, .int 0])), (q0, .inl (cA .int, 10, .inl (fun _ => 0))), (q1, .inl (cA .int, 10, .inl (fun _ => 0)))] := hD
  refine W.cs (cells' := 2) (slots' := 20) rfl rfl ?_
  refine va_putF (D := D) (ci := 0) (v := .ref q1) (ty := .array .int) (C := gR0) (T := gT0) (N := 10) hx hb htb gx_lay0 gY0 gY0_ok gN0 hown hK hP hD hS 0 rfl rfl 1 (by decide) (htb _ (show Cond.fieldLink gR0 15 "GreatestFlow$Graph" "bounds" "[I" ∈ gx_TBL from gx_in1 26 rfl rfl)) (fun _ h9 => h9) rfl hin rfl (by decide +kernel) rfl rfl (Nat.le_of_ble_eq_true rfl) (show decode prog_2_method_1_code 17 = .ok (.putfield 15, 3) by decide +kernel) (fun H locs hP hD hS => ?_)
  have hP : va_P D gx_cl [(h0, .inr (0, [.ref q0, .ref q1, .null, .null, .null, .null, .null, .int 0, .int 0, .int 0])), (q0, .inl (cA .int, 10, .inl (fun _ => 0))), (q1, .inl (cA .int, 10, .inl (fun _ => 0)))] H := hP
  have hD : va_D A [(h0, .inr (0, [.ref q0, .ref q1, .null, .null, .null, .null, .null, .int 0, .int 0, .int 0])), (q0, .inl (cA .int, 10, .inl (fun _ => 0))), (q1, .inl (cA .int, 10, .inl (fun _ => 0)))] := hD
  refine lv_aload_n hx hb (show decode prog_2_method_1_code 20 = .ok (.aload_n 0, 1) by decide +kernel) rfl (lv_at hl 0 rfl) ?_
  refine lv_bipush (v := 40) hx hb (show decode prog_2_method_1_code 21 = .ok (.bipush 40, 2) by decide +kernel) (by decide) ?_
  refine gx_na (cA := cA) hx hb (ty := .int) rfl (htb _ gx_aI) rfl (gx_raI hK) hK hP hD hS hA 40 (by decide) (by decide) (by decide) (Nat.le_of_ble_eq_true rfl) (Nat.le_of_ble_eq_true rfl) (show decode prog_2_method_1_code 23 = .ok (.newarray .int, 2) by decide +kernel) (fun q2 H hP hD hS => ?_)
  have hP : va_P D gx_cl [(h0, .inr (0, [.ref q0, .ref q1, .null, .null, .null, .null, .null, .int 0, .int 0, .int 0])), (q0, .inl (cA .int, 10, .inl (fun _ => 0))), (q1, .inl (cA .int, 10, .inl (fun _ => 0))), (q2, .inl (cA .int, 40, .inl (fun _ => 0)))] H := hP
  have hD : va_D A [(h0, .inr (0, [.ref q0, .ref q1, .null, .null, .null, .null, .null, .int 0, .int 0, .int 0])), (q0, .inl (cA .int, 10, .inl (fun _ => 0))), (q1, .inl (cA .int, 10, .inl (fun _ => 0))), (q2, .inl (cA .int, 40, .inl (fun _ => 0)))] := hD
  refine W.cs (cells' := 3) (slots' := 60) rfl rfl ?_
  refine va_putF (D := D) (ci := 0) (v := .ref q2) (ty := .array .int) (C := gR0) (T := gT0) (N := 10) hx hb htb gx_lay0 gY0 gY0_ok gN0 hown hK hP hD hS 0 rfl rfl 2 (by decide) (htb _ (show Cond.fieldLink gR0 18 "GreatestFlow$Graph" "froms" "[I" ∈ gx_TBL from gx_in1 28 rfl rfl)) (fun _ h9 => h9) rfl hin rfl (by decide +kernel) rfl rfl (Nat.le_of_ble_eq_true rfl) (show decode prog_2_method_1_code 25 = .ok (.putfield 18, 3) by decide +kernel) (fun H locs hP hD hS => ?_)
  have hP : va_P D gx_cl [(h0, .inr (0, [.ref q0, .ref q1, .ref q2, .null, .null, .null, .null, .int 0, .int 0, .int 0])), (q0, .inl (cA .int, 10, .inl (fun _ => 0))), (q1, .inl (cA .int, 10, .inl (fun _ => 0))), (q2, .inl (cA .int, 40, .inl (fun _ => 0)))] H := hP
  have hD : va_D A [(h0, .inr (0, [.ref q0, .ref q1, .ref q2, .null, .null, .null, .null, .int 0, .int 0, .int 0])), (q0, .inl (cA .int, 10, .inl (fun _ => 0))), (q1, .inl (cA .int, 10, .inl (fun _ => 0))), (q2, .inl (cA .int, 40, .inl (fun _ => 0)))] := hD
  refine lv_aload_n hx hb (show decode prog_2_method_1_code 28 = .ok (.aload_n 0, 1) by decide +kernel) rfl (lv_at hl 0 rfl) ?_
  refine lv_bipush (v := 40) hx hb (show decode prog_2_method_1_code 29 = .ok (.bipush 40, 2) by decide +kernel) (by decide) ?_
  refine gx_na (cA := cA) hx hb (ty := .int) rfl (htb _ gx_aI) rfl (gx_raI hK) hK hP hD hS hA 40 (by decide) (by decide) (by decide) (Nat.le_of_ble_eq_true rfl) (Nat.le_of_ble_eq_true rfl) (show decode prog_2_method_1_code 31 = .ok (.newarray .int, 2) by decide +kernel) (fun q3 H hP hD hS => ?_)
  have hP : va_P D gx_cl [(h0, .inr (0, [.ref q0, .ref q1, .ref q2, .null, .null, .null, .null, .int 0, .int 0, .int 0])), (q0, .inl (cA .int, 10, .inl (fun _ => 0))), (q1, .inl (cA .int, 10, .inl (fun _ => 0))), (q2, .inl (cA .int, 40, .inl (fun _ => 0))), (q3, .inl (cA .int, 40, .inl (fun _ => 0)))] H := hP
  have hD : va_D A [(h0, .inr (0, [.ref q0, .ref q1, .ref q2, .null, .null, .null, .null, .int 0, .int 0, .int 0])), (q0, .inl (cA .int, 10, .inl (fun _ => 0))), (q1, .inl (cA .int, 10, .inl (fun _ => 0))), (q2, .inl (cA .int, 40, .inl (fun _ => 0))), (q3, .inl (cA .int, 40, .inl (fun _ => 0)))] := hD
  refine W.cs (cells' := 4) (slots' := 100) rfl rfl ?_
  refine va_putF (D := D) (ci := 0) (v := .ref q3) (ty := .array .int) (C := gR0) (T := gT0) (N := 10) hx hb htb gx_lay0 gY0 gY0_ok gN0 hown hK hP hD hS 0 rfl rfl 3 (by decide) (htb _ (show Cond.fieldLink gR0 21 "GreatestFlow$Graph" "tos" "[I" ∈ gx_TBL from gx_in1 31 rfl rfl)) (fun _ h9 => h9) rfl hin rfl (by decide +kernel) rfl rfl (Nat.le_of_ble_eq_true rfl) (show decode prog_2_method_1_code 33 = .ok (.putfield 21, 3) by decide +kernel) (fun H locs hP hD hS => ?_)
  have hP : va_P D gx_cl [(h0, .inr (0, [.ref q0, .ref q1, .ref q2, .ref q3, .null, .null, .null, .int 0, .int 0, .int 0])), (q0, .inl (cA .int, 10, .inl (fun _ => 0))), (q1, .inl (cA .int, 10, .inl (fun _ => 0))), (q2, .inl (cA .int, 40, .inl (fun _ => 0))), (q3, .inl (cA .int, 40, .inl (fun _ => 0)))] H := hP
  have hD : va_D A [(h0, .inr (0, [.ref q0, .ref q1, .ref q2, .ref q3, .null, .null, .null, .int 0, .int 0, .int 0])), (q0, .inl (cA .int, 10, .inl (fun _ => 0))), (q1, .inl (cA .int, 10, .inl (fun _ => 0))), (q2, .inl (cA .int, 40, .inl (fun _ => 0))), (q3, .inl (cA .int, 40, .inl (fun _ => 0)))] := hD
  refine lv_aload_n hx hb (show decode prog_2_method_1_code 36 = .ok (.aload_n 0, 1) by decide +kernel) rfl (lv_at hl 0 rfl) ?_
  refine lv_bipush (v := 40) hx hb (show decode prog_2_method_1_code 37 = .ok (.bipush 40, 2) by decide +kernel) (by decide) ?_
  refine gx_na (cA := cA) hx hb (ty := .int) rfl (htb _ gx_aI) rfl (gx_raI hK) hK hP hD hS hA 40 (by decide) (by decide) (by decide) (Nat.le_of_ble_eq_true rfl) (Nat.le_of_ble_eq_true rfl) (show decode prog_2_method_1_code 39 = .ok (.newarray .int, 2) by decide +kernel) (fun q4 H hP hD hS => ?_)
  have hP : va_P D gx_cl [(h0, .inr (0, [.ref q0, .ref q1, .ref q2, .ref q3, .null, .null, .null, .int 0, .int 0, .int 0])), (q0, .inl (cA .int, 10, .inl (fun _ => 0))), (q1, .inl (cA .int, 10, .inl (fun _ => 0))), (q2, .inl (cA .int, 40, .inl (fun _ => 0))), (q3, .inl (cA .int, 40, .inl (fun _ => 0))), (q4, .inl (cA .int, 40, .inl (fun _ => 0)))] H := hP
  have hD : va_D A [(h0, .inr (0, [.ref q0, .ref q1, .ref q2, .ref q3, .null, .null, .null, .int 0, .int 0, .int 0])), (q0, .inl (cA .int, 10, .inl (fun _ => 0))), (q1, .inl (cA .int, 10, .inl (fun _ => 0))), (q2, .inl (cA .int, 40, .inl (fun _ => 0))), (q3, .inl (cA .int, 40, .inl (fun _ => 0))), (q4, .inl (cA .int, 40, .inl (fun _ => 0)))] := hD
  refine W.cs (cells' := 5) (slots' := 140) rfl rfl ?_
  refine va_putF (D := D) (ci := 0) (v := .ref q4) (ty := .array .int) (C := gR0) (T := gT0) (N := 10) hx hb htb gx_lay0 gY0 gY0_ok gN0 hown hK hP hD hS 0 rfl rfl 4 (by decide) (htb _ (show Cond.fieldLink gR0 24 "GreatestFlow$Graph" "leasts" "[I" ∈ gx_TBL from gx_in1 34 rfl rfl)) (fun _ h9 => h9) rfl hin rfl (by decide +kernel) rfl rfl (Nat.le_of_ble_eq_true rfl) (show decode prog_2_method_1_code 41 = .ok (.putfield 24, 3) by decide +kernel) (fun H locs hP hD hS => ?_)
  have hP : va_P D gx_cl [(h0, .inr (0, [.ref q0, .ref q1, .ref q2, .ref q3, .ref q4, .null, .null, .int 0, .int 0, .int 0])), (q0, .inl (cA .int, 10, .inl (fun _ => 0))), (q1, .inl (cA .int, 10, .inl (fun _ => 0))), (q2, .inl (cA .int, 40, .inl (fun _ => 0))), (q3, .inl (cA .int, 40, .inl (fun _ => 0))), (q4, .inl (cA .int, 40, .inl (fun _ => 0)))] H := hP
  have hD : va_D A [(h0, .inr (0, [.ref q0, .ref q1, .ref q2, .ref q3, .ref q4, .null, .null, .int 0, .int 0, .int 0])), (q0, .inl (cA .int, 10, .inl (fun _ => 0))), (q1, .inl (cA .int, 10, .inl (fun _ => 0))), (q2, .inl (cA .int, 40, .inl (fun _ => 0))), (q3, .inl (cA .int, 40, .inl (fun _ => 0))), (q4, .inl (cA .int, 40, .inl (fun _ => 0)))] := hD
  refine lv_aload_n hx hb (show decode prog_2_method_1_code 44 = .ok (.aload_n 0, 1) by decide +kernel) rfl (lv_at hl 0 rfl) ?_
  refine lv_bipush (v := 40) hx hb (show decode prog_2_method_1_code 45 = .ok (.bipush 40, 2) by decide +kernel) (by decide) ?_
  refine gx_na (cA := cA) hx hb (ty := .int) rfl (htb _ gx_aI) rfl (gx_raI hK) hK hP hD hS hA 40 (by decide) (by decide) (by decide) (Nat.le_of_ble_eq_true rfl) (Nat.le_of_ble_eq_true rfl) (show decode prog_2_method_1_code 47 = .ok (.newarray .int, 2) by decide +kernel) (fun q5 H hP hD hS => ?_)
  have hP : va_P D gx_cl [(h0, .inr (0, [.ref q0, .ref q1, .ref q2, .ref q3, .ref q4, .null, .null, .int 0, .int 0, .int 0])), (q0, .inl (cA .int, 10, .inl (fun _ => 0))), (q1, .inl (cA .int, 10, .inl (fun _ => 0))), (q2, .inl (cA .int, 40, .inl (fun _ => 0))), (q3, .inl (cA .int, 40, .inl (fun _ => 0))), (q4, .inl (cA .int, 40, .inl (fun _ => 0))), (q5, .inl (cA .int, 40, .inl (fun _ => 0)))] H := hP
  have hD : va_D A [(h0, .inr (0, [.ref q0, .ref q1, .ref q2, .ref q3, .ref q4, .null, .null, .int 0, .int 0, .int 0])), (q0, .inl (cA .int, 10, .inl (fun _ => 0))), (q1, .inl (cA .int, 10, .inl (fun _ => 0))), (q2, .inl (cA .int, 40, .inl (fun _ => 0))), (q3, .inl (cA .int, 40, .inl (fun _ => 0))), (q4, .inl (cA .int, 40, .inl (fun _ => 0))), (q5, .inl (cA .int, 40, .inl (fun _ => 0)))] := hD
  refine W.cs (cells' := 6) (slots' := 180) rfl rfl ?_
  refine va_putF (D := D) (ci := 0) (v := .ref q5) (ty := .array .int) (C := gR0) (T := gT0) (N := 10) hx hb htb gx_lay0 gY0 gY0_ok gN0 hown hK hP hD hS 0 rfl rfl 5 (by decide) (htb _ (show Cond.fieldLink gR0 27 "GreatestFlow$Graph" "mosts" "[I" ∈ gx_TBL from gx_in1 36 rfl rfl)) (fun _ h9 => h9) rfl hin rfl (by decide +kernel) rfl rfl (Nat.le_of_ble_eq_true rfl) (show decode prog_2_method_1_code 49 = .ok (.putfield 27, 3) by decide +kernel) (fun H locs hP hD hS => ?_)
  have hP : va_P D gx_cl [(h0, .inr (0, [.ref q0, .ref q1, .ref q2, .ref q3, .ref q4, .ref q5, .null, .int 0, .int 0, .int 0])), (q0, .inl (cA .int, 10, .inl (fun _ => 0))), (q1, .inl (cA .int, 10, .inl (fun _ => 0))), (q2, .inl (cA .int, 40, .inl (fun _ => 0))), (q3, .inl (cA .int, 40, .inl (fun _ => 0))), (q4, .inl (cA .int, 40, .inl (fun _ => 0))), (q5, .inl (cA .int, 40, .inl (fun _ => 0)))] H := hP
  have hD : va_D A [(h0, .inr (0, [.ref q0, .ref q1, .ref q2, .ref q3, .ref q4, .ref q5, .null, .int 0, .int 0, .int 0])), (q0, .inl (cA .int, 10, .inl (fun _ => 0))), (q1, .inl (cA .int, 10, .inl (fun _ => 0))), (q2, .inl (cA .int, 40, .inl (fun _ => 0))), (q3, .inl (cA .int, 40, .inl (fun _ => 0))), (q4, .inl (cA .int, 40, .inl (fun _ => 0))), (q5, .inl (cA .int, 40, .inl (fun _ => 0)))] := hD
  refine lv_aload_n hx hb (show decode prog_2_method_1_code 52 = .ok (.aload_n 0, 1) by decide +kernel) rfl (lv_at hl 0 rfl) ?_
  refine lv_bipush (v := 40) hx hb (show decode prog_2_method_1_code 53 = .ok (.bipush 40, 2) by decide +kernel) (by decide) ?_
  refine gx_na (cA := cA) hx hb (ty := .boolean) rfl (htb _ gx_aZ) rfl (gx_raZ hK) hK hP hD hS hA 40 (by decide) (by decide) (by decide) (Nat.le_of_ble_eq_true rfl) (Nat.le_of_ble_eq_true rfl) (show decode prog_2_method_1_code 55 = .ok (.newarray .boolean, 2) by decide +kernel) (fun q6 H hP hD hS => ?_)
  have hP : va_P D gx_cl [(h0, .inr (0, [.ref q0, .ref q1, .ref q2, .ref q3, .ref q4, .ref q5, .null, .int 0, .int 0, .int 0])), (q0, .inl (cA .int, 10, .inl (fun _ => 0))), (q1, .inl (cA .int, 10, .inl (fun _ => 0))), (q2, .inl (cA .int, 40, .inl (fun _ => 0))), (q3, .inl (cA .int, 40, .inl (fun _ => 0))), (q4, .inl (cA .int, 40, .inl (fun _ => 0))), (q5, .inl (cA .int, 40, .inl (fun _ => 0))), (q6, .inl (cA .boolean, 40, .inl (fun _ => 0)))] H := hP
  have hD : va_D A [(h0, .inr (0, [.ref q0, .ref q1, .ref q2, .ref q3, .ref q4, .ref q5, .null, .int 0, .int 0, .int 0])), (q0, .inl (cA .int, 10, .inl (fun _ => 0))), (q1, .inl (cA .int, 10, .inl (fun _ => 0))), (q2, .inl (cA .int, 40, .inl (fun _ => 0))), (q3, .inl (cA .int, 40, .inl (fun _ => 0))), (q4, .inl (cA .int, 40, .inl (fun _ => 0))), (q5, .inl (cA .int, 40, .inl (fun _ => 0))), (q6, .inl (cA .boolean, 40, .inl (fun _ => 0)))] := hD
  refine W.cs (cells' := 7) (slots' := 220) rfl rfl ?_
  refine va_putF (D := D) (ci := 0) (v := .ref q6) (ty := .array .boolean) (C := gR0) (T := gT0) (N := 10) hx hb htb gx_lay0 gY0 gY0_ok gN0 hown hK hP hD hS 0 rfl rfl 6 (by decide) (htb _ (show Cond.fieldLink gR0 30 "GreatestFlow$Graph" "dropped" "[Z" ∈ gx_TBL from gx_in1 38 rfl rfl)) (fun _ h9 => h9) rfl hin rfl (by decide +kernel) rfl rfl (Nat.le_of_ble_eq_true rfl) (show decode prog_2_method_1_code 57 = .ok (.putfield 30, 3) by decide +kernel) (fun H locs hP hD hS => ?_)
  have hP : va_P D gx_cl [(h0, .inr (0, [.ref q0, .ref q1, .ref q2, .ref q3, .ref q4, .ref q5, .ref q6, .int 0, .int 0, .int 0])), (q0, .inl (cA .int, 10, .inl (fun _ => 0))), (q1, .inl (cA .int, 10, .inl (fun _ => 0))), (q2, .inl (cA .int, 40, .inl (fun _ => 0))), (q3, .inl (cA .int, 40, .inl (fun _ => 0))), (q4, .inl (cA .int, 40, .inl (fun _ => 0))), (q5, .inl (cA .int, 40, .inl (fun _ => 0))), (q6, .inl (cA .boolean, 40, .inl (fun _ => 0)))] H := hP
  have hD : va_D A [(h0, .inr (0, [.ref q0, .ref q1, .ref q2, .ref q3, .ref q4, .ref q5, .ref q6, .int 0, .int 0, .int 0])), (q0, .inl (cA .int, 10, .inl (fun _ => 0))), (q1, .inl (cA .int, 10, .inl (fun _ => 0))), (q2, .inl (cA .int, 40, .inl (fun _ => 0))), (q3, .inl (cA .int, 40, .inl (fun _ => 0))), (q4, .inl (cA .int, 40, .inl (fun _ => 0))), (q5, .inl (cA .int, 40, .inl (fun _ => 0))), (q6, .inl (cA .boolean, 40, .inl (fun _ => 0)))] := hD
  exact W.vret hx hb hr (fun t ht hW => ⟨⟨(fun i => [q0, q1, q2, q3, q4, q5, q6].getD i 0), rfl, trivial, by rw [ht]; exact hP, va_K.moved hW.alike hK, hD⟩, hS.F ht⟩) hS.2.2 (show decode prog_2_method_1_code 60 = .ok (.return_, 1) by decide +kernel)
def gy_Net : MethodName := ⟨"GreatestFlow$Net", "<init>", "()V"⟩
def gw_Net : List Cond := .code gy_Net prog_3_method_1_code 1 none :: gx_TBL
theorem gw_Net_in : Cond.code gy_Net prog_3_method_1_code 1 none ∈ gx_TBL := gx_in1 73 rfl rfl
/-- the cells behind GreatestFlow$Net() -/
abbrev gz_Net (cA : FieldType → ClassId) (h0 : Nat) (u : Nat → Nat) : va_W := [(h0, .inr (1, [.ref (u 0), .ref (u 1), .ref (u 2), .ref (u 3), .ref (u 4), .ref (u 5), .ref (u 6), .ref (u 7), .ref (u 8), .ref (u 9)])), (u 0, .inl (cA .int, 61, .inl (fun _ => 0))), (u 1, .inl (cA .int, 61, .inl (fun _ => 0))), (u 2, .inl (cA .int, 61, .inl (fun _ => 0))), (u 3, .inl (cA .int, 61, .inl (fun _ => 0))), (u 4, .inl (cA .int, 61, .inl (fun _ => 0))), (u 5, .inl (cA .boolean, 61, .inl (fun _ => 0))), (u 6, .inl (cA .int, 924, .inl (fun _ => 0))), (u 7, .inl (cA .int, 22, .inl (fun _ => 0))), (u 8, .inl (cA .int, 22, .inl (fun _ => 0))), (u 9, .inl (cA .int, 22, .inl (fun _ => 0)))]
set_option maxHeartbeats 4000000 in
set_option maxRecDepth 100000 in
theorem gc_Net (l : Launch) (D : va_G) (cA : FieldType → ClassId) (h0 sz : Nat) : Met l gy_Net gw_Net ({ frames := 1, cells := 10, slots := 1356, locals := 12 }) (va_Pc [.ref h0] (fun U => U.heap.size = sz ∧ va_P D gx_cl [(h0, .inr (1, [.null, .null, .null, .null, .null, .null, .null, .null, .null, .null]))] U.heap ∧ va_K D gx_cl (gx_tys cA) U ∧ va_D (fun _ => True) [(h0, .inr (1, [.null, .null, .null, .null, .null, .null, .null, .null, .null, .null]))])) (va_Qv (fun _ : Nat → Nat => True) (fun u t => va_P D gx_cl (gz_Net cA h0 u) t.heap ∧ va_K D gx_cl (gx_tys cA) t ∧ va_D (va_A [(h0, .inr (1, [.null, .null, .null, .null, .null, .null, .null, .null, .null, .null]))] sz) (gz_Net cA h0 u)) (va_A [(h0, .inr (1, [.null, .null, .null, .null, .null, .null, .null, .null, .null, .null]))] sz)) 10 1356 (va_A [(h0, .inr (1, [.null, .null, .null, .null, .null, .null, .null, .null, .null, .null]))] sz) := by
  refine Met.ofW (cc := prog_3_method_1_code) (maxL := 1) (ret := none) (by decide) rfl ?_
  intro p e s m args below meth c s₁ B hml hv
  obtain ⟨rfl, hsz, hP, hK, hD0⟩ := hv
  have hx := B.exec
  have hb := B.bytes
  have hr := B.returns
  have hts := atoms_spec (ws := gw_Net) B.pre
  have htb : ∀ w ∈ gx_TBL, w.before #[Value.ref h0] s = true := fun w hw => hts w (List.mem_cons_of_mem _ hw)
  have hown : s.vm.findClass gR1 = some m.cls := findClass_of_methodNamed B.named
  have hlocks := B.notSynchronized
  have hin : meth.name = "<init>" := (name_of_methodNamed B.named B.method).1
  subst hsz
  have hD := hD0.self (sz := s.heap.size)
  generalize hAe : va_A [(h0, .inr (1, [.null, .null, .null, .null, .null, .null, .null, .null, .null, .null]))] s.heap.size = A at hD ⊢
  have hA : ∀ q : Nat, s.heap.size ≤ q → A q := fun q h => by rw [← hAe]; exact Or.inr h
  have hS : va_S A s.heap s.heap [] := va_S.rf
  have hl := lv_entry ([.ref h0]) (n := 1) (Nat.le_of_ble_eq_true rfl)
  rw [lg_entry_eq]
  generalize (lg_sl ([.ref h0]) ++ List.replicate (1 - (lg_sl ([.ref h0])).length) Slot.unset).toArray = ls at hl ⊢
  have hl : lv_has ls 1 [(0, .ref h0)] := hl
  refine lv_aload_n hx hb (show decode prog_3_method_1_code 0 = .ok (.aload_n 0, 1) by decide +kernel) rfl (lv_at hl 0 rfl) ?_
  refine W.objInit hx hb hown (htb _ (show Cond.methodLink gR1 3 objectInit ∈ gx_TBL from gx_in1 74 rfl rfl)) (htb _ gx_oi) (htb _ gx_oc) rfl (by rw [hml]; exact hl.1) rfl (show decode prog_3_method_1_code 1 = .ok (.invokespecial 3, 3) by decide +kernel) (Nat.le_of_ble_eq_true rfl) (Nat.le_of_ble_eq_true rfl) ?_
  refine W.eq (g2 := F0 m 4 ls []) rfl ?_
  refine lv_aload_n hx hb (show decode prog_3_method_1_code 4 = .ok (.aload_n 0, 1) by decide +kernel) rfl (lv_at hl 0 rfl) ?_
  refine lv_bipush (v := 61) hx hb (show decode prog_3_method_1_code 5 = .ok (.bipush 61, 2) by decide +kernel) (by decide) ?_
  refine gx_na (cA := cA) hx hb (ty := .int) rfl (htb _ gx_aI) rfl (gx_raI hK) hK hP hD hS hA 61 (by decide) (by decide) (by decide) (Nat.le_of_ble_eq_true rfl) (Nat.le_of_ble_eq_true rfl) (show decode prog_3_method_1_code 7 = .ok (.newarray .int, 2) by decide +kernel) (fun q0 H hP hD hS => ?_)
  have hP : va_P D gx_cl [(h0, .inr (1, [.null, .null, .null, .null, .null, .null, .null, .null, .null, .null])), (q0, .inl (cA .int, 61, .inl (fun _ => 0)))] H := hP
  have hD : va_D A [(h0, .inr (1, [.null, .null, .null, .null, .null, .null, .null, .null, .null, .null])), (q0, .inl (cA .int, 61, .inl (fun _ => 0)))] := hD
  refine W.cs (cells' := 1) (slots' := 61) rfl rfl ?_
  refine va_putF (D := D) (ci := 1) (v := .ref q0) (ty := .array .int) (C := gR1) (T := gT1) (N := 10) hx hb htb gx_lay1 gY1 gY1_ok gN1 hown hK hP hD hS 0 rfl rfl 0 (by decide) (htb _ (show Cond.fieldLink gR1 9 "GreatestFlow$Net" "low" "[I" ∈ gx_TBL from gx_in1 75 rfl rfl)) (fun _ h9 => h9) rfl hin rfl (by decide +kernel) rfl rfl (Nat.le_of_ble_eq_true rfl) (show decode prog_3_method_1_code 9 = .ok (.putfield 9, 3) by decide +kernel) (fun H locs hP hD hS => ?_)
  have hP : va_P D gx_cl [(h0, .inr (1, [.ref q0, .null, .null, .null, .null, .null, .null, .null, .null, .null])), (q0, .inl (cA .int, 61, .inl (fun _ => 0)))] H := hP
  have hD : va_D A [(h0, .inr (1, [.ref q0, .null, .null, .null, .null, .null, .null, .null, .null, .null])), (q0, .inl (cA .int, 61, .inl (fun _ => 0)))] := hD
  refine lv_aload_n hx hb (show decode prog_3_method_1_code 12 = .ok (.aload_n 0, 1) by decide +kernel) rfl (lv_at hl 0 rfl) ?_
  refine lv_bipush (v := 61) hx hb (show decode prog_3_method_1_code 13 = .ok (.bipush 61, 2) by decide +kernel) (by decide) ?_
  refine gx_na (cA := cA) hx hb (ty := .int) rfl (htb _ gx_aI) rfl (gx_raI hK) hK hP hD hS hA 61 (by decide) (by decide) (by decide) (Nat.le_of_ble_eq_true rfl) (Nat.le_of_ble_eq_true rfl) (show decode prog_3_method_1_code 15 = .ok (.newarray .int, 2) by decide +kernel) (fun q1 H hP hD hS => ?_)
  have hP : va_P D gx_cl [(h0, .inr (1, [.ref q0, .null, .null, .null, .null, .null, .null, .null, .null, .null])), (q0, .inl (cA .int, 61, .inl (fun _ => 0))), (q1, .inl (cA .int, 61, .inl (fun _ => 0)))] H := hP
  have hD : va_D A [(h0, .inr (1, [.ref q0, .null, .null, .null, .null, .null, .null, .null, .null, .null])), (q0, .inl (cA .int, 61, .inl (fun _ => 0))), (q1, .inl (cA .int, 61, .inl (fun _ => 0)))] := hD
  refine W.cs (cells' := 2) (slots' := 122) rfl rfl ?_
  refine va_putF (D := D) (ci := 1) (v := .ref q1) (ty := .array .int) (C := gR1) (T := gT1) (N := 10) hx hb htb gx_lay1 gY1 gY1_ok gN1 hown hK hP hD hS 0 rfl rfl 1 (by decide) (htb _ (show Cond.fieldLink gR1 15 "GreatestFlow$Net" "high" "[I" ∈ gx_TBL from gx_in1 77 rfl rfl)) (fun _ h9 => h9) rfl hin rfl (by decide +kernel) rfl rfl (Nat.le_of_ble_eq_true rfl) (show decode prog_3_method_1_code 17 = .ok (.putfield 15, 3) by decide +kernel) (fun H locs hP hD hS => ?_)
  have hP : va_P D gx_cl [(h0, .inr (1, [.ref q0, .ref q1, .null, .null, .null, .null, .null, .null, .null, .null])), (q0, .inl (cA .int, 61, .inl (fun _ => 0))), (q1, .inl (cA .int, 61, .inl (fun _ => 0)))] H := hP
  have hD : va_D A [(h0, .inr (1, [.ref q0, .ref q1, .null, .null, .null, .null, .null, .null, .null, .null])), (q0, .inl (cA .int, 61, .inl (fun _ => 0))), (q1, .inl (cA .int, 61, .inl (fun _ => 0)))] := hD
  refine lv_aload_n hx hb (show decode prog_3_method_1_code 20 = .ok (.aload_n 0, 1) by decide +kernel) rfl (lv_at hl 0 rfl) ?_
  refine lv_bipush (v := 61) hx hb (show decode prog_3_method_1_code 21 = .ok (.bipush 61, 2) by decide +kernel) (by decide) ?_
  refine gx_na (cA := cA) hx hb (ty := .int) rfl (htb _ gx_aI) rfl (gx_raI hK) hK hP hD hS hA 61 (by decide) (by decide) (by decide) (Nat.le_of_ble_eq_true rfl) (Nat.le_of_ble_eq_true rfl) (show decode prog_3_method_1_code 23 = .ok (.newarray .int, 2) by decide +kernel) (fun q2 H hP hD hS => ?_)
  have hP : va_P D gx_cl [(h0, .inr (1, [.ref q0, .ref q1, .null, .null, .null, .null, .null, .null, .null, .null])), (q0, .inl (cA .int, 61, .inl (fun _ => 0))), (q1, .inl (cA .int, 61, .inl (fun _ => 0))), (q2, .inl (cA .int, 61, .inl (fun _ => 0)))] H := hP
  have hD : va_D A [(h0, .inr (1, [.ref q0, .ref q1, .null, .null, .null, .null, .null, .null, .null, .null])), (q0, .inl (cA .int, 61, .inl (fun _ => 0))), (q1, .inl (cA .int, 61, .inl (fun _ => 0))), (q2, .inl (cA .int, 61, .inl (fun _ => 0)))] := hD
  refine W.cs (cells' := 3) (slots' := 183) rfl rfl ?_
  refine va_putF (D := D) (ci := 1) (v := .ref q2) (ty := .array .int) (C := gR1) (T := gT1) (N := 10) hx hb htb gx_lay1 gY1 gY1_ok gN1 hown hK hP hD hS 0 rfl rfl 2 (by decide) (htb _ (show Cond.fieldLink gR1 18 "GreatestFlow$Net" "from" "[I" ∈ gx_TBL from gx_in1 79 rfl rfl)) (fun _ h9 => h9) rfl hin rfl (by decide +kernel) rfl rfl (Nat.le_of_ble_eq_true rfl) (show decode prog_3_method_1_code 25 = .ok (.putfield 18, 3) by decide +kernel) (fun H locs hP hD hS => ?_)
  have hP : va_P D gx_cl [(h0, .inr (1, [.ref q0, .ref q1, .ref q2, .null, .null, .null, .null, .null, .null, .null])), (q0, .inl (cA .int, 61, .inl (fun _ => 0))), (q1, .inl (cA .int, 61, .inl (fun _ => 0))), (q2, .inl (cA .int, 61, .inl (fun _ => 0)))] H := hP
  have hD : va_D A [(h0, .inr (1, [.ref q0, .ref q1, .ref q2, .null, .null, .null, .null, .null, .null, .null])), (q0, .inl (cA .int, 61, .inl (fun _ => 0))), (q1, .inl (cA .int, 61, .inl (fun _ => 0))), (q2, .inl (cA .int, 61, .inl (fun _ => 0)))] := hD
  refine lv_aload_n hx hb (show decode prog_3_method_1_code 28 = .ok (.aload_n 0, 1) by decide +kernel) rfl (lv_at hl 0 rfl) ?_
  refine lv_bipush (v := 61) hx hb (show decode prog_3_method_1_code 29 = .ok (.bipush 61, 2) by decide +kernel) (by decide) ?_
  refine gx_na (cA := cA) hx hb (ty := .int) rfl (htb _ gx_aI) rfl (gx_raI hK) hK hP hD hS hA 61 (by decide) (by decide) (by decide) (Nat.le_of_ble_eq_true rfl) (Nat.le_of_ble_eq_true rfl) (show decode prog_3_method_1_code 31 = .ok (.newarray .int, 2) by decide +kernel) (fun q3 H hP hD hS => ?_)
  have hP : va_P D gx_cl [(h0, .inr (1, [.ref q0, .ref q1, .ref q2, .null, .null, .null, .null, .null, .null, .null])), (q0, .inl (cA .int, 61, .inl (fun _ => 0))), (q1, .inl (cA .int, 61, .inl (fun _ => 0))), (q2, .inl (cA .int, 61, .inl (fun _ => 0))), (q3, .inl (cA .int, 61, .inl (fun _ => 0)))] H := hP
  have hD : va_D A [(h0, .inr (1, [.ref q0, .ref q1, .ref q2, .null, .null, .null, .null, .null, .null, .null])), (q0, .inl (cA .int, 61, .inl (fun _ => 0))), (q1, .inl (cA .int, 61, .inl (fun _ => 0))), (q2, .inl (cA .int, 61, .inl (fun _ => 0))), (q3, .inl (cA .int, 61, .inl (fun _ => 0)))] := hD
  refine W.cs (cells' := 4) (slots' := 244) rfl rfl ?_
  refine va_putF (D := D) (ci := 1) (v := .ref q3) (ty := .array .int) (C := gR1) (T := gT1) (N := 10) hx hb htb gx_lay1 gY1 gY1_ok gN1 hown hK hP hD hS 0 rfl rfl 3 (by decide) (htb _ (show Cond.fieldLink gR1 21 "GreatestFlow$Net" "to" "[I" ∈ gx_TBL from gx_in1 80 rfl rfl)) (fun _ h9 => h9) rfl hin rfl (by decide +kernel) rfl rfl (Nat.le_of_ble_eq_true rfl) (show decode prog_3_method_1_code 33 = .ok (.putfield 21, 3) by decide +kernel) (fun H locs hP hD hS => ?_)
  have hP : va_P D gx_cl [(h0, .inr (1, [.ref q0, .ref q1, .ref q2, .ref q3, .null, .null, .null, .null, .null, .null])), (q0, .inl (cA .int, 61, .inl (fun _ => 0))), (q1, .inl (cA .int, 61, .inl (fun _ => 0))), (q2, .inl (cA .int, 61, .inl (fun _ => 0))), (q3, .inl (cA .int, 61, .inl (fun _ => 0)))] H := hP
  have hD : va_D A [(h0, .inr (1, [.ref q0, .ref q1, .ref q2, .ref q3, .null, .null, .null, .null, .null, .null])), (q0, .inl (cA .int, 61, .inl (fun _ => 0))), (q1, .inl (cA .int, 61, .inl (fun _ => 0))), (q2, .inl (cA .int, 61, .inl (fun _ => 0))), (q3, .inl (cA .int, 61, .inl (fun _ => 0)))] := hD
  refine lv_aload_n hx hb (show decode prog_3_method_1_code 36 = .ok (.aload_n 0, 1) by decide +kernel) rfl (lv_at hl 0 rfl) ?_
  refine lv_bipush (v := 61) hx hb (show decode prog_3_method_1_code 37 = .ok (.bipush 61, 2) by decide +kernel) (by decide) ?_
  refine gx_na (cA := cA) hx hb (ty := .int) rfl (htb _ gx_aI) rfl (gx_raI hK) hK hP hD hS hA 61 (by decide) (by decide) (by decide) (Nat.le_of_ble_eq_true rfl) (Nat.le_of_ble_eq_true rfl) (show decode prog_3_method_1_code 39 = .ok (.newarray .int, 2) by decide +kernel) (fun q4 H hP hD hS => ?_)
  have hP : va_P D gx_cl [(h0, .inr (1, [.ref q0, .ref q1, .ref q2, .ref q3, .null, .null, .null, .null, .null, .null])), (q0, .inl (cA .int, 61, .inl (fun _ => 0))), (q1, .inl (cA .int, 61, .inl (fun _ => 0))), (q2, .inl (cA .int, 61, .inl (fun _ => 0))), (q3, .inl (cA .int, 61, .inl (fun _ => 0))), (q4, .inl (cA .int, 61, .inl (fun _ => 0)))] H := hP
  have hD : va_D A [(h0, .inr (1, [.ref q0, .ref q1, .ref q2, .ref q3, .null, .null, .null, .null, .null, .null])), (q0, .inl (cA .int, 61, .inl (fun _ => 0))), (q1, .inl (cA .int, 61, .inl (fun _ => 0))), (q2, .inl (cA .int, 61, .inl (fun _ => 0))), (q3, .inl (cA .int, 61, .inl (fun _ => 0))), (q4, .inl (cA .int, 61, .inl (fun _ => 0)))] := hD
  refine W.cs (cells' := 5) (slots' := 305) rfl rfl ?_
  refine va_putF (D := D) (ci := 1) (v := .ref q4) (ty := .array .int) (C := gR1) (T := gT1) (N := 10) hx hb htb gx_lay1 gY1 gY1_ok gN1 hown hK hP hD hS 0 rfl rfl 4 (by decide) (htb _ (show Cond.fieldLink gR1 24 "GreatestFlow$Net" "flow" "[I" ∈ gx_TBL from gx_in1 81 rfl rfl)) (fun _ h9 => h9) rfl hin rfl (by decide +kernel) rfl rfl (Nat.le_of_ble_eq_true rfl) (show decode prog_3_method_1_code 41 = .ok (.putfield 24, 3) by decide +kernel) (fun H locs hP hD hS => ?_)
  have hP : va_P D gx_cl [(h0, .inr (1, [.ref q0, .ref q1, .ref q2, .ref q3, .ref q4, .null, .null, .null, .null, .null])), (q0, .inl (cA .int, 61, .inl (fun _ => 0))), (q1, .inl (cA .int, 61, .inl (fun _ => 0))), (q2, .inl (cA .int, 61, .inl (fun _ => 0))), (q3, .inl (cA .int, 61, .inl (fun _ => 0))), (q4, .inl (cA .int, 61, .inl (fun _ => 0)))] H := hP
  have hD : va_D A [(h0, .inr (1, [.ref q0, .ref q1, .ref q2, .ref q3, .ref q4, .null, .null, .null, .null, .null])), (q0, .inl (cA .int, 61, .inl (fun _ => 0))), (q1, .inl (cA .int, 61, .inl (fun _ => 0))), (q2, .inl (cA .int, 61, .inl (fun _ => 0))), (q3, .inl (cA .int, 61, .inl (fun _ => 0))), (q4, .inl (cA .int, 61, .inl (fun _ => 0)))] := hD
  refine lv_aload_n hx hb (show decode prog_3_method_1_code 44 = .ok (.aload_n 0, 1) by decide +kernel) rfl (lv_at hl 0 rfl) ?_
  refine lv_bipush (v := 61) hx hb (show decode prog_3_method_1_code 45 = .ok (.bipush 61, 2) by decide +kernel) (by decide) ?_
  refine gx_na (cA := cA) hx hb (ty := .boolean) rfl (htb _ gx_aZ) rfl (gx_raZ hK) hK hP hD hS hA 61 (by decide) (by decide) (by decide) (Nat.le_of_ble_eq_true rfl) (Nat.le_of_ble_eq_true rfl) (show decode prog_3_method_1_code 47 = .ok (.newarray .boolean, 2) by decide +kernel) (fun q5 H hP hD hS => ?_)
  have hP : va_P D gx_cl [(h0, .inr (1, [.ref q0, .ref q1, .ref q2, .ref q3, .ref q4, .null, .null, .null, .null, .null])), (q0, .inl (cA .int, 61, .inl (fun _ => 0))), (q1, .inl (cA .int, 61, .inl (fun _ => 0))), (q2, .inl (cA .int, 61, .inl (fun _ => 0))), (q3, .inl (cA .int, 61, .inl (fun _ => 0))), (q4, .inl (cA .int, 61, .inl (fun _ => 0))), (q5, .inl (cA .boolean, 61, .inl (fun _ => 0)))] H := hP
  have hD : va_D A [(h0, .inr (1, [.ref q0, .ref q1, .ref q2, .ref q3, .ref q4, .null, .null, .null, .null, .null])), (q0, .inl (cA .int, 61, .inl (fun _ => 0))), (q1, .inl (cA .int, 61, .inl (fun _ => 0))), (q2, .inl (cA .int, 61, .inl (fun _ => 0))), (q3, .inl (cA .int, 61, .inl (fun _ => 0))), (q4, .inl (cA .int, 61, .inl (fun _ => 0))), (q5, .inl (cA .boolean, 61, .inl (fun _ => 0)))] := hD
  refine W.cs (cells' := 6) (slots' := 366) rfl rfl ?_
  refine va_putF (D := D) (ci := 1) (v := .ref q5) (ty := .array .boolean) (C := gR1) (T := gT1) (N := 10) hx hb htb gx_lay1 gY1 gY1_ok gN1 hown hK hP hD hS 0 rfl rfl 5 (by decide) (htb _ (show Cond.fieldLink gR1 27 "GreatestFlow$Net" "held" "[Z" ∈ gx_TBL from gx_in1 82 rfl rfl)) (fun _ h9 => h9) rfl hin rfl (by decide +kernel) rfl rfl (Nat.le_of_ble_eq_true rfl) (show decode prog_3_method_1_code 49 = .ok (.putfield 27, 3) by decide +kernel) (fun H locs hP hD hS => ?_)
  have hP : va_P D gx_cl [(h0, .inr (1, [.ref q0, .ref q1, .ref q2, .ref q3, .ref q4, .ref q5, .null, .null, .null, .null])), (q0, .inl (cA .int, 61, .inl (fun _ => 0))), (q1, .inl (cA .int, 61, .inl (fun _ => 0))), (q2, .inl (cA .int, 61, .inl (fun _ => 0))), (q3, .inl (cA .int, 61, .inl (fun _ => 0))), (q4, .inl (cA .int, 61, .inl (fun _ => 0))), (q5, .inl (cA .boolean, 61, .inl (fun _ => 0)))] H := hP
  have hD : va_D A [(h0, .inr (1, [.ref q0, .ref q1, .ref q2, .ref q3, .ref q4, .ref q5, .null, .null, .null, .null])), (q0, .inl (cA .int, 61, .inl (fun _ => 0))), (q1, .inl (cA .int, 61, .inl (fun _ => 0))), (q2, .inl (cA .int, 61, .inl (fun _ => 0))), (q3, .inl (cA .int, 61, .inl (fun _ => 0))), (q4, .inl (cA .int, 61, .inl (fun _ => 0))), (q5, .inl (cA .boolean, 61, .inl (fun _ => 0)))] := hD
  refine lv_aload_n hx hb (show decode prog_3_method_1_code 52 = .ok (.aload_n 0, 1) by decide +kernel) rfl (lv_at hl 0 rfl) ?_
  refine lv_sipush (v := 924) hx hb (show decode prog_3_method_1_code 53 = .ok (.sipush 924, 3) by decide +kernel) (by decide) ?_
  refine gx_na (cA := cA) hx hb (ty := .int) rfl (htb _ gx_aI) rfl (gx_raI hK) hK hP hD hS hA 924 (by decide) (by decide) (by decide) (Nat.le_of_ble_eq_true rfl) (Nat.le_of_ble_eq_true rfl) (show decode prog_3_method_1_code 56 = .ok (.newarray .int, 2) by decide +kernel) (fun q6 H hP hD hS => ?_)
  have hP : va_P D gx_cl [(h0, .inr (1, [.ref q0, .ref q1, .ref q2, .ref q3, .ref q4, .ref q5, .null, .null, .null, .null])), (q0, .inl (cA .int, 61, .inl (fun _ => 0))), (q1, .inl (cA .int, 61, .inl (fun _ => 0))), (q2, .inl (cA .int, 61, .inl (fun _ => 0))), (q3, .inl (cA .int, 61, .inl (fun _ => 0))), (q4, .inl (cA .int, 61, .inl (fun _ => 0))), (q5, .inl (cA .boolean, 61, .inl (fun _ => 0))), (q6, .inl (cA .int, 924, .inl (fun _ => 0)))] H := hP
  have hD : va_D A [(h0, .inr (1, [.ref q0, .ref q1, .ref q2, .ref q3, .ref q4, .ref q5, .null, .null, .null, .null])), (q0, .inl (cA .int, 61, .inl (fun _ => 0))), (q1, .inl (cA .int, 61, .inl (fun _ => 0))), (q2, .inl (cA .int, 61, .inl (fun _ => 0))), (q3, .inl (cA .int, 61, .inl (fun _ => 0))), (q4, .inl (cA .int, 61, .inl (fun _ => 0))), (q5, .inl (cA .boolean, 61, .inl (fun _ => 0))), (q6, .inl (cA .int, 924, .inl (fun _ => 0)))] := hD
  refine W.cs (cells' := 7) (slots' := 1290) rfl rfl ?_
  refine va_putF (D := D) (ci := 1) (v := .ref q6) (ty := .array .int) (C := gR1) (T := gT1) (N := 10) hx hb htb gx_lay1 gY1 gY1_ok gN1 hown hK hP hD hS 0 rfl rfl 6 (by decide) (htb _ (show Cond.fieldLink gR1 31 "GreatestFlow$Net" "halves" "[I" ∈ gx_TBL from gx_in1 83 rfl rfl)) (fun _ h9 => h9) rfl hin rfl (by decide +kernel) rfl rfl (Nat.le_of_ble_eq_true rfl) (show decode prog_3_method_1_code 58 = .ok (.putfield 31, 3) by decide +kernel) (fun H locs hP hD hS => ?_)
  have hP : va_P D gx_cl [(h0, .inr (1, [.ref q0, .ref q1, .ref q2, .ref q3, .ref q4, .ref q5, .ref q6, .null, .null, .null])), (q0, .inl (cA .int, 61, .inl (fun _ => 0))), (q1, .inl (cA .int, 61, .inl (fun _ => 0))), (q2, .inl (cA .int, 61, .inl (fun _ => 0))), (q3, .inl (cA .int, 61, .inl (fun _ => 0))), (q4, .inl (cA .int, 61, .inl (fun _ => 0))), (q5, .inl (cA .boolean, 61, .inl (fun _ => 0))), (q6, .inl (cA .int, 924, .inl (fun _ => 0)))] H := hP
  have hD : va_D A [(h0, .inr (1, [.ref q0, .ref q1, .ref q2, .ref q3, .ref q4, .ref q5, .ref q6, .null, .null, .null])), (q0, .inl (cA .int, 61, .inl (fun _ => 0))), (q1, .inl (cA .int, 61, .inl (fun _ => 0))), (q2, .inl (cA .int, 61, .inl (fun _ => 0))), (q3, .inl (cA .int, 61, .inl (fun _ => 0))), (q4, .inl (cA .int, 61, .inl (fun _ => 0))), (q5, .inl (cA .boolean, 61, .inl (fun _ => 0))), (q6, .inl (cA .int, 924, .inl (fun _ => 0)))] := hD
  refine lv_aload_n hx hb (show decode prog_3_method_1_code 61 = .ok (.aload_n 0, 1) by decide +kernel) rfl (lv_at hl 0 rfl) ?_
  refine lv_bipush (v := 22) hx hb (show decode prog_3_method_1_code 62 = .ok (.bipush 22, 2) by decide +kernel) (by decide) ?_
  refine gx_na (cA := cA) hx hb (ty := .int) rfl (htb _ gx_aI) rfl (gx_raI hK) hK hP hD hS hA 22 (by decide) (by decide) (by decide) (Nat.le_of_ble_eq_true rfl) (Nat.le_of_ble_eq_true rfl) (show decode prog_3_method_1_code 64 = .ok (.newarray .int, 2) by decide +kernel) (fun q7 H hP hD hS => ?_)
  have hP : va_P D gx_cl [(h0, .inr (1, [.ref q0, .ref q1, .ref q2, .ref q3, .ref q4, .ref q5, .ref q6, .null, .null, .null])), (q0, .inl (cA .int, 61, .inl (fun _ => 0))), (q1, .inl (cA .int, 61, .inl (fun _ => 0))), (q2, .inl (cA .int, 61, .inl (fun _ => 0))), (q3, .inl (cA .int, 61, .inl (fun _ => 0))), (q4, .inl (cA .int, 61, .inl (fun _ => 0))), (q5, .inl (cA .boolean, 61, .inl (fun _ => 0))), (q6, .inl (cA .int, 924, .inl (fun _ => 0))), (q7, .inl (cA .int, 22, .inl (fun _ => 0)))] H := hP
  have hD : va_D A [(h0, .inr (1, [.ref q0, .ref q1, .ref q2, .ref q3, .ref q4, .ref q5, .ref q6, .null, .null, .null])), (q0, .inl (cA .int, 61, .inl (fun _ => 0))), (q1, .inl (cA .int, 61, .inl (fun _ => 0))), (q2, .inl (cA .int, 61, .inl (fun _ => 0))), (q3, .inl (cA .int, 61, .inl (fun _ => 0))), (q4, .inl (cA .int, 61, .inl (fun _ => 0))), (q5, .inl (cA .boolean, 61, .inl (fun _ => 0))), (q6, .inl (cA .int, 924, .inl (fun _ => 0))), (q7, .inl (cA .int, 22, .inl (fun _ => 0)))] := hD
  refine W.cs (cells' := 8) (slots' := 1312) rfl rfl ?_
  refine va_putF (D := D) (ci := 1) (v := .ref q7) (ty := .array .int) (C := gR1) (T := gT1) (N := 10) hx hb htb gx_lay1 gY1 gY1_ok gN1 hown hK hP hD hS 0 rfl rfl 7 (by decide) (htb _ (show Cond.fieldLink gR1 34 "GreatestFlow$Net" "halfCount" "[I" ∈ gx_TBL from gx_in1 84 rfl rfl)) (fun _ h9 => h9) rfl hin rfl (by decide +kernel) rfl rfl (Nat.le_of_ble_eq_true rfl) (show decode prog_3_method_1_code 66 = .ok (.putfield 34, 3) by decide +kernel) (fun H locs hP hD hS => ?_)
  have hP : va_P D gx_cl [(h0, .inr (1, [.ref q0, .ref q1, .ref q2, .ref q3, .ref q4, .ref q5, .ref q6, .ref q7, .null, .null])), (q0, .inl (cA .int, 61, .inl (fun _ => 0))), (q1, .inl (cA .int, 61, .inl (fun _ => 0))), (q2, .inl (cA .int, 61, .inl (fun _ => 0))), (q3, .inl (cA .int, 61, .inl (fun _ => 0))), (q4, .inl (cA .int, 61, .inl (fun _ => 0))), (q5, .inl (cA .boolean, 61, .inl (fun _ => 0))), (q6, .inl (cA .int, 924, .inl (fun _ => 0))), (q7, .inl (cA .int, 22, .inl (fun _ => 0)))] H := hP
  have hD : va_D A [(h0, .inr (1, [.ref q0, .ref q1, .ref q2, .ref q3, .ref q4, .ref q5, .ref q6, .ref q7, .null, .null])), (q0, .inl (cA .int, 61, .inl (fun _ => 0))), (q1, .inl (cA .int, 61, .inl (fun _ => 0))), (q2, .inl (cA .int, 61, .inl (fun _ => 0))), (q3, .inl (cA .int, 61, .inl (fun _ => 0))), (q4, .inl (cA .int, 61, .inl (fun _ => 0))), (q5, .inl (cA .boolean, 61, .inl (fun _ => 0))), (q6, .inl (cA .int, 924, .inl (fun _ => 0))), (q7, .inl (cA .int, 22, .inl (fun _ => 0)))] := hD
  refine lv_aload_n hx hb (show decode prog_3_method_1_code 69 = .ok (.aload_n 0, 1) by decide +kernel) rfl (lv_at hl 0 rfl) ?_
  refine lv_bipush (v := 22) hx hb (show decode prog_3_method_1_code 70 = .ok (.bipush 22, 2) by decide +kernel) (by decide) ?_
  refine gx_na (cA := cA) hx hb (ty := .int) rfl (htb _ gx_aI) rfl (gx_raI hK) hK hP hD hS hA 22 (by decide) (by decide) (by decide) (Nat.le_of_ble_eq_true rfl) (Nat.le_of_ble_eq_true rfl) (show decode prog_3_method_1_code 72 = .ok (.newarray .int, 2) by decide +kernel) (fun q8 H hP hD hS => ?_)
  have hP : va_P D gx_cl [(h0, .inr (1, [.ref q0, .ref q1, .ref q2, .ref q3, .ref q4, .ref q5, .ref q6, .ref q7, .null, .null])), (q0, .inl (cA .int, 61, .inl (fun _ => 0))), (q1, .inl (cA .int, 61, .inl (fun _ => 0))), (q2, .inl (cA .int, 61, .inl (fun _ => 0))), (q3, .inl (cA .int, 61, .inl (fun _ => 0))), (q4, .inl (cA .int, 61, .inl (fun _ => 0))), (q5, .inl (cA .boolean, 61, .inl (fun _ => 0))), (q6, .inl (cA .int, 924, .inl (fun _ => 0))), (q7, .inl (cA .int, 22, .inl (fun _ => 0))), (q8, .inl (cA .int, 22, .inl (fun _ => 0)))] H := hP
  have hD : va_D A [(h0, .inr (1, [.ref q0, .ref q1, .ref q2, .ref q3, .ref q4, .ref q5, .ref q6, .ref q7, .null, .null])), (q0, .inl (cA .int, 61, .inl (fun _ => 0))), (q1, .inl (cA .int, 61, .inl (fun _ => 0))), (q2, .inl (cA .int, 61, .inl (fun _ => 0))), (q3, .inl (cA .int, 61, .inl (fun _ => 0))), (q4, .inl (cA .int, 61, .inl (fun _ => 0))), (q5, .inl (cA .boolean, 61, .inl (fun _ => 0))), (q6, .inl (cA .int, 924, .inl (fun _ => 0))), (q7, .inl (cA .int, 22, .inl (fun _ => 0))), (q8, .inl (cA .int, 22, .inl (fun _ => 0)))] := hD
  refine W.cs (cells' := 9) (slots' := 1334) rfl rfl ?_
  refine va_putF (D := D) (ci := 1) (v := .ref q8) (ty := .array .int) (C := gR1) (T := gT1) (N := 10) hx hb htb gx_lay1 gY1 gY1_ok gN1 hown hK hP hD hS 0 rfl rfl 8 (by decide) (htb _ (show Cond.fieldLink gR1 37 "GreatestFlow$Net" "reachedBy" "[I" ∈ gx_TBL from gx_in1 85 rfl rfl)) (fun _ h9 => h9) rfl hin rfl (by decide +kernel) rfl rfl (Nat.le_of_ble_eq_true rfl) (show decode prog_3_method_1_code 74 = .ok (.putfield 37, 3) by decide +kernel) (fun H locs hP hD hS => ?_)
  have hP : va_P D gx_cl [(h0, .inr (1, [.ref q0, .ref q1, .ref q2, .ref q3, .ref q4, .ref q5, .ref q6, .ref q7, .ref q8, .null])), (q0, .inl (cA .int, 61, .inl (fun _ => 0))), (q1, .inl (cA .int, 61, .inl (fun _ => 0))), (q2, .inl (cA .int, 61, .inl (fun _ => 0))), (q3, .inl (cA .int, 61, .inl (fun _ => 0))), (q4, .inl (cA .int, 61, .inl (fun _ => 0))), (q5, .inl (cA .boolean, 61, .inl (fun _ => 0))), (q6, .inl (cA .int, 924, .inl (fun _ => 0))), (q7, .inl (cA .int, 22, .inl (fun _ => 0))), (q8, .inl (cA .int, 22, .inl (fun _ => 0)))] H := hP
  have hD : va_D A [(h0, .inr (1, [.ref q0, .ref q1, .ref q2, .ref q3, .ref q4, .ref q5, .ref q6, .ref q7, .ref q8, .null])), (q0, .inl (cA .int, 61, .inl (fun _ => 0))), (q1, .inl (cA .int, 61, .inl (fun _ => 0))), (q2, .inl (cA .int, 61, .inl (fun _ => 0))), (q3, .inl (cA .int, 61, .inl (fun _ => 0))), (q4, .inl (cA .int, 61, .inl (fun _ => 0))), (q5, .inl (cA .boolean, 61, .inl (fun _ => 0))), (q6, .inl (cA .int, 924, .inl (fun _ => 0))), (q7, .inl (cA .int, 22, .inl (fun _ => 0))), (q8, .inl (cA .int, 22, .inl (fun _ => 0)))] := hD
  refine lv_aload_n hx hb (show decode prog_3_method_1_code 77 = .ok (.aload_n 0, 1) by decide +kernel) rfl (lv_at hl 0 rfl) ?_
  refine lv_bipush (v := 22) hx hb (show decode prog_3_method_1_code 78 = .ok (.bipush 22, 2) by decide +kernel) (by decide) ?_
  refine gx_na (cA := cA) hx hb (ty := .int) rfl (htb _ gx_aI) rfl (gx_raI hK) hK hP hD hS hA 22 (by decide) (by decide) (by decide) (Nat.le_of_ble_eq_true rfl) (Nat.le_of_ble_eq_true rfl) (show decode prog_3_method_1_code 80 = .ok (.newarray .int, 2) by decide +kernel) (fun q9 H hP hD hS => ?_)
  have hP : va_P D gx_cl [(h0, .inr (1, [.ref q0, .ref q1, .ref q2, .ref q3, .ref q4, .ref q5, .ref q6, .ref q7, .ref q8, .null])), (q0, .inl (cA .int, 61, .inl (fun _ => 0))), (q1, .inl (cA .int, 61, .inl (fun _ => 0))), (q2, .inl (cA .int, 61, .inl (fun _ => 0))), (q3, .inl (cA .int, 61, .inl (fun _ => 0))), (q4, .inl (cA .int, 61, .inl (fun _ => 0))), (q5, .inl (cA .boolean, 61, .inl (fun _ => 0))), (q6, .inl (cA .int, 924, .inl (fun _ => 0))), (q7, .inl (cA .int, 22, .inl (fun _ => 0))), (q8, .inl (cA .int, 22, .inl (fun _ => 0))), (q9, .inl (cA .int, 22, .inl (fun _ => 0)))] H := hP
  have hD : va_D A [(h0, .inr (1, [.ref q0, .ref q1, .ref q2, .ref q3, .ref q4, .ref q5, .ref q6, .ref q7, .ref q8, .null])), (q0, .inl (cA .int, 61, .inl (fun _ => 0))), (q1, .inl (cA .int, 61, .inl (fun _ => 0))), (q2, .inl (cA .int, 61, .inl (fun _ => 0))), (q3, .inl (cA .int, 61, .inl (fun _ => 0))), (q4, .inl (cA .int, 61, .inl (fun _ => 0))), (q5, .inl (cA .boolean, 61, .inl (fun _ => 0))), (q6, .inl (cA .int, 924, .inl (fun _ => 0))), (q7, .inl (cA .int, 22, .inl (fun _ => 0))), (q8, .inl (cA .int, 22, .inl (fun _ => 0))), (q9, .inl (cA .int, 22, .inl (fun _ => 0)))] := hD
  refine W.cs (cells' := 10) (slots' := 1356) rfl rfl ?_
  refine va_putF (D := D) (ci := 1) (v := .ref q9) (ty := .array .int) (C := gR1) (T := gT1) (N := 10) hx hb htb gx_lay1 gY1 gY1_ok gN1 hown hK hP hD hS 0 rfl rfl 9 (by decide) (htb _ (show Cond.fieldLink gR1 40 "GreatestFlow$Net" "queue" "[I" ∈ gx_TBL from gx_in1 86 rfl rfl)) (fun _ h9 => h9) rfl hin rfl (by decide +kernel) rfl rfl (Nat.le_of_ble_eq_true rfl) (show decode prog_3_method_1_code 82 = .ok (.putfield 40, 3) by decide +kernel) (fun H locs hP hD hS => ?_)
  have hP : va_P D gx_cl [(h0, .inr (1, [.ref q0, .ref q1, .ref q2, .ref q3, .ref q4, .ref q5, .ref q6, .ref q7, .ref q8, .ref q9])), (q0, .inl (cA .int, 61, .inl (fun _ => 0))), (q1, .inl (cA .int, 61, .inl (fun _ => 0))), (q2, .inl (cA .int, 61, .inl (fun _ => 0))), (q3, .inl (cA .int, 61, .inl (fun _ => 0))), (q4, .inl (cA .int, 61, .inl (fun _ => 0))), (q5, .inl (cA .boolean, 61, .inl (fun _ => 0))), (q6, .inl (cA .int, 924, .inl (fun _ => 0))), (q7, .inl (cA .int, 22, .inl (fun _ => 0))), (q8, .inl (cA .int, 22, .inl (fun _ => 0))), (q9, .inl (cA .int, 22, .inl (fun _ => 0)))] H := hP
  have hD : va_D A [(h0, .inr (1, [.ref q0, .ref q1, .ref q2, .ref q3, .ref q4, .ref q5, .ref q6, .ref q7, .ref q8, .ref q9])), (q0, .inl (cA .int, 61, .inl (fun _ => 0))), (q1, .inl (cA .int, 61, .inl (fun _ => 0))), (q2, .inl (cA .int, 61, .inl (fun _ => 0))), (q3, .inl (cA .int, 61, .inl (fun _ => 0))), (q4, .inl (cA .int, 61, .inl (fun _ => 0))), (q5, .inl (cA .boolean, 61, .inl (fun _ => 0))), (q6, .inl (cA .int, 924, .inl (fun _ => 0))), (q7, .inl (cA .int, 22, .inl (fun _ => 0))), (q8, .inl (cA .int, 22, .inl (fun _ => 0))), (q9, .inl (cA .int, 22, .inl (fun _ => 0)))] := hD
  exact W.vret hx hb hr (fun t ht hW => ⟨⟨(fun i => [q0, q1, q2, q3, q4, q5, q6, q7, q8, q9].getD i 0), rfl, trivial, by rw [ht]; exact hP, va_K.moved hW.alike hK, hD⟩, hS.F ht⟩) hS.2.2 (show decode prog_3_method_1_code 85 = .ok (.return_, 1) by decide +kernel)
def gy_Parts : MethodName := ⟨"GreatestFlow$Parts", "<init>", "()V"⟩
def gw_Parts : List Cond := .code gy_Parts prog_4_method_1_code 1 none :: gx_TBL
theorem gw_Parts_in : Cond.code gy_Parts prog_4_method_1_code 1 none ∈ gx_TBL := gx_in1 112 rfl rfl
/-- the cells behind GreatestFlow$Parts() -/
abbrev gz_Parts (cA : FieldType → ClassId) (h0 : Nat) (u : Nat → Nat) : va_W := [(h0, .inr (2, [.ref (u 0), .ref (u 1), .int 0, .ref (u 2), .ref (u 3), .ref (u 4), .ref (u 5), .ref (u 6)])), (u 0, .inl (cA .int, 50, .inl (fun _ => 0))), (u 1, .inl (cA .int, 50, .inl (fun _ => 0))), (u 2, .inl (cA .int, 500, .inl (fun _ => 0))), (u 3, .inl (cA .int, 40, .inl (fun _ => 0))), (u 4, .inl (cA .int, 10, .inl (fun _ => 0))), (u 5, .inl (cA .int, 10, .inl (fun _ => 0))), (u 6, .inl (cA .int, 10, .inl (fun _ => 0)))]
set_option maxHeartbeats 4000000 in
set_option maxRecDepth 100000 in
theorem gc_Parts (l : Launch) (D : va_G) (cA : FieldType → ClassId) (h0 sz : Nat) : Met l gy_Parts gw_Parts ({ frames := 1, cells := 7, slots := 670, locals := 12 }) (va_Pc [.ref h0] (fun U => U.heap.size = sz ∧ va_P D gx_cl [(h0, .inr (2, [.null, .null, .int 0, .null, .null, .null, .null, .null]))] U.heap ∧ va_K D gx_cl (gx_tys cA) U ∧ va_D (fun _ => True) [(h0, .inr (2, [.null, .null, .int 0, .null, .null, .null, .null, .null]))])) (va_Qv (fun _ : Nat → Nat => True) (fun u t => va_P D gx_cl (gz_Parts cA h0 u) t.heap ∧ va_K D gx_cl (gx_tys cA) t ∧ va_D (va_A [(h0, .inr (2, [.null, .null, .int 0, .null, .null, .null, .null, .null]))] sz) (gz_Parts cA h0 u)) (va_A [(h0, .inr (2, [.null, .null, .int 0, .null, .null, .null, .null, .null]))] sz)) 7 670 (va_A [(h0, .inr (2, [.null, .null, .int 0, .null, .null, .null, .null, .null]))] sz) := by
  refine Met.ofW (cc := prog_4_method_1_code) (maxL := 1) (ret := none) (by decide) rfl ?_
  intro p e s m args below meth c s₁ B hml hv
  obtain ⟨rfl, hsz, hP, hK, hD0⟩ := hv
  have hx := B.exec
  have hb := B.bytes
  have hr := B.returns
  have hts := atoms_spec (ws := gw_Parts) B.pre
  have htb : ∀ w ∈ gx_TBL, w.before #[Value.ref h0] s = true := fun w hw => hts w (List.mem_cons_of_mem _ hw)
  have hown : s.vm.findClass gR2 = some m.cls := findClass_of_methodNamed B.named
  have hlocks := B.notSynchronized
  have hin : meth.name = "<init>" := (name_of_methodNamed B.named B.method).1
  subst hsz
  have hD := hD0.self (sz := s.heap.size)
  generalize hAe : va_A [(h0, .inr (2, [.null, .null, .int 0, .null, .null, .null, .null, .null]))] s.heap.size = A at hD ⊢
  have hA : ∀ q : Nat, s.heap.size ≤ q → A q := fun q h => by rw [← hAe]; exact Or.inr h
  have hS : va_S A s.heap s.heap [] := va_S.rf
  have hl := lv_entry ([.ref h0]) (n := 1) (Nat.le_of_ble_eq_true rfl)
  rw [lg_entry_eq]
  generalize (lg_sl ([.ref h0]) ++ List.replicate (1 - (lg_sl ([.ref h0])).length) Slot.unset).toArray = ls at hl ⊢
  have hl : lv_has ls 1 [(0, .ref h0)] := hl
  refine lv_aload_n hx hb (show decode prog_4_method_1_code 0 = .ok (.aload_n 0, 1) by decide +kernel) rfl (lv_at hl 0 rfl) ?_
  refine W.objInit hx hb hown (htb _ (show Cond.methodLink gR2 3 objectInit ∈ gx_TBL from gx_in1 113 rfl rfl)) (htb _ gx_oi) (htb _ gx_oc) rfl (by rw [hml]; exact hl.1) rfl (show decode prog_4_method_1_code 1 = .ok (.invokespecial 3, 3) by decide +kernel) (Nat.le_of_ble_eq_true rfl) (Nat.le_of_ble_eq_true rfl) ?_
  refine W.eq (g2 := F0 m 4 ls []) rfl ?_
  refine lv_aload_n hx hb (show decode prog_4_method_1_code 4 = .ok (.aload_n 0, 1) by decide +kernel) rfl (lv_at hl 0 rfl) ?_
  refine lv_bipush (v := 50) hx hb (show decode prog_4_method_1_code 5 = .ok (.bipush 50, 2) by decide +kernel) (by decide) ?_
  refine gx_na (cA := cA) hx hb (ty := .int) rfl (htb _ gx_aI) rfl (gx_raI hK) hK hP hD hS hA 50 (by decide) (by decide) (by decide) (Nat.le_of_ble_eq_true rfl) (Nat.le_of_ble_eq_true rfl) (show decode prog_4_method_1_code 7 = .ok (.newarray .int, 2) by decide +kernel) (fun q0 H hP hD hS => ?_)
  have hP : va_P D gx_cl [(h0, .inr (2, [.null, .null, .int 0, .null, .null, .null, .null, .null])), (q0, .inl (cA .int, 50, .inl (fun _ => 0)))] H := hP
  have hD : va_D A [(h0, .inr (2, [.null, .null, .int 0, .null, .null, .null, .null, .null])), (q0, .inl (cA .int, 50, .inl (fun _ => 0)))] := hD
  refine W.cs (cells' := 1) (slots' := 50) rfl rfl ?_
  refine va_putF (D := D) (ci := 2) (v := .ref q0) (ty := .array .int) (C := gR2) (T := gT2) (N := 8) hx hb htb gx_lay2 gY2 gY2_ok gN2 hown hK hP hD hS 0 rfl rfl 0 (by decide) (htb _ (show Cond.fieldLink gR2 9 "GreatestFlow$Parts" "amounts" "[I" ∈ gx_TBL from gx_in1 114 rfl rfl)) (fun _ h9 => h9) rfl hin rfl (by decide +kernel) rfl rfl (Nat.le_of_ble_eq_true rfl) (show decode prog_4_method_1_code 9 = .ok (.putfield 9, 3) by decide +kernel) (fun H locs hP hD hS => ?_)
  have hP : va_P D gx_cl [(h0, .inr (2, [.ref q0, .null, .int 0, .null, .null, .null, .null, .null])), (q0, .inl (cA .int, 50, .inl (fun _ => 0)))] H := hP
  have hD : va_D A [(h0, .inr (2, [.ref q0, .null, .int 0, .null, .null, .null, .null, .null])), (q0, .inl (cA .int, 50, .inl (fun _ => 0)))] := hD
  refine lv_aload_n hx hb (show decode prog_4_method_1_code 12 = .ok (.aload_n 0, 1) by decide +kernel) rfl (lv_at hl 0 rfl) ?_
  refine lv_bipush (v := 50) hx hb (show decode prog_4_method_1_code 13 = .ok (.bipush 50, 2) by decide +kernel) (by decide) ?_
  refine gx_na (cA := cA) hx hb (ty := .int) rfl (htb _ gx_aI) rfl (gx_raI hK) hK hP hD hS hA 50 (by decide) (by decide) (by decide) (Nat.le_of_ble_eq_true rfl) (Nat.le_of_ble_eq_true rfl) (show decode prog_4_method_1_code 15 = .ok (.newarray .int, 2) by decide +kernel) (fun q1 H hP hD hS => ?_)
  have hP : va_P D gx_cl [(h0, .inr (2, [.ref q0, .null, .int 0, .null, .null, .null, .null, .null])), (q0, .inl (cA .int, 50, .inl (fun _ => 0))), (q1, .inl (cA .int, 50, .inl (fun _ => 0)))] H := hP
  have hD : va_D A [(h0, .inr (2, [.ref q0, .null, .int 0, .null, .null, .null, .null, .null])), (q0, .inl (cA .int, 50, .inl (fun _ => 0))), (q1, .inl (cA .int, 50, .inl (fun _ => 0)))] := hD
  refine W.cs (cells' := 2) (slots' := 100) rfl rfl ?_
  refine va_putF (D := D) (ci := 2) (v := .ref q1) (ty := .array .int) (C := gR2) (T := gT2) (N := 8) hx hb htb gx_lay2 gY2 gY2_ok gN2 hown hK hP hD hS 0 rfl rfl 1 (by decide) (htb _ (show Cond.fieldLink gR2 15 "GreatestFlow$Parts" "lengths" "[I" ∈ gx_TBL from gx_in1 116 rfl rfl)) (fun _ h9 => h9) rfl hin rfl (by decide +kernel) rfl rfl (Nat.le_of_ble_eq_true rfl) (show decode prog_4_method_1_code 17 = .ok (.putfield 15, 3) by decide +kernel) (fun H locs hP hD hS => ?_)
  have hP : va_P D gx_cl [(h0, .inr (2, [.ref q0, .ref q1, .int 0, .null, .null, .null, .null, .null])), (q0, .inl (cA .int, 50, .inl (fun _ => 0))), (q1, .inl (cA .int, 50, .inl (fun _ => 0)))] H := hP
  have hD : va_D A [(h0, .inr (2, [.ref q0, .ref q1, .int 0, .null, .null, .null, .null, .null])), (q0, .inl (cA .int, 50, .inl (fun _ => 0))), (q1, .inl (cA .int, 50, .inl (fun _ => 0)))] := hD
  refine lv_aload_n hx hb (show decode prog_4_method_1_code 20 = .ok (.aload_n 0, 1) by decide +kernel) rfl (lv_at hl 0 rfl) ?_
  refine lv_sipush (v := 500) hx hb (show decode prog_4_method_1_code 21 = .ok (.sipush 500, 3) by decide +kernel) (by decide) ?_
  refine gx_na (cA := cA) hx hb (ty := .int) rfl (htb _ gx_aI) rfl (gx_raI hK) hK hP hD hS hA 500 (by decide) (by decide) (by decide) (Nat.le_of_ble_eq_true rfl) (Nat.le_of_ble_eq_true rfl) (show decode prog_4_method_1_code 24 = .ok (.newarray .int, 2) by decide +kernel) (fun q2 H hP hD hS => ?_)
  have hP : va_P D gx_cl [(h0, .inr (2, [.ref q0, .ref q1, .int 0, .null, .null, .null, .null, .null])), (q0, .inl (cA .int, 50, .inl (fun _ => 0))), (q1, .inl (cA .int, 50, .inl (fun _ => 0))), (q2, .inl (cA .int, 500, .inl (fun _ => 0)))] H := hP
  have hD : va_D A [(h0, .inr (2, [.ref q0, .ref q1, .int 0, .null, .null, .null, .null, .null])), (q0, .inl (cA .int, 50, .inl (fun _ => 0))), (q1, .inl (cA .int, 50, .inl (fun _ => 0))), (q2, .inl (cA .int, 500, .inl (fun _ => 0)))] := hD
  refine W.cs (cells' := 3) (slots' := 600) rfl rfl ?_
  refine va_putF (D := D) (ci := 2) (v := .ref q2) (ty := .array .int) (C := gR2) (T := gT2) (N := 8) hx hb htb gx_lay2 gY2 gY2_ok gN2 hown hK hP hD hS 0 rfl rfl 3 (by decide) (htb _ (show Cond.fieldLink gR2 18 "GreatestFlow$Parts" "streamArcs" "[I" ∈ gx_TBL from gx_in1 120 rfl rfl)) (fun _ h9 => h9) rfl hin rfl (by decide +kernel) rfl rfl (Nat.le_of_ble_eq_true rfl) (show decode prog_4_method_1_code 26 = .ok (.putfield 18, 3) by decide +kernel) (fun H locs hP hD hS => ?_)
  have hP : va_P D gx_cl [(h0, .inr (2, [.ref q0, .ref q1, .int 0, .ref q2, .null, .null, .null, .null])), (q0, .inl (cA .int, 50, .inl (fun _ => 0))), (q1, .inl (cA .int, 50, .inl (fun _ => 0))), (q2, .inl (cA .int, 500, .inl (fun _ => 0)))] H := hP
  have hD : va_D A [(h0, .inr (2, [.ref q0, .ref q1, .int 0, .ref q2, .null, .null, .null, .null])), (q0, .inl (cA .int, 50, .inl (fun _ => 0))), (q1, .inl (cA .int, 50, .inl (fun _ => 0))), (q2, .inl (cA .int, 500, .inl (fun _ => 0)))] := hD
  refine lv_aload_n hx hb (show decode prog_4_method_1_code 29 = .ok (.aload_n 0, 1) by decide +kernel) rfl (lv_at hl 0 rfl) ?_
  refine lv_bipush (v := 40) hx hb (show decode prog_4_method_1_code 30 = .ok (.bipush 40, 2) by decide +kernel) (by decide) ?_
  refine gx_na (cA := cA) hx hb (ty := .int) rfl (htb _ gx_aI) rfl (gx_raI hK) hK hP hD hS hA 40 (by decide) (by decide) (by decide) (Nat.le_of_ble_eq_true rfl) (Nat.le_of_ble_eq_true rfl) (show decode prog_4_method_1_code 32 = .ok (.newarray .int, 2) by decide +kernel) (fun q3 H hP hD hS => ?_)
  have hP : va_P D gx_cl [(h0, .inr (2, [.ref q0, .ref q1, .int 0, .ref q2, .null, .null, .null, .null])), (q0, .inl (cA .int, 50, .inl (fun _ => 0))), (q1, .inl (cA .int, 50, .inl (fun _ => 0))), (q2, .inl (cA .int, 500, .inl (fun _ => 0))), (q3, .inl (cA .int, 40, .inl (fun _ => 0)))] H := hP
  have hD : va_D A [(h0, .inr (2, [.ref q0, .ref q1, .int 0, .ref q2, .null, .null, .null, .null])), (q0, .inl (cA .int, 50, .inl (fun _ => 0))), (q1, .inl (cA .int, 50, .inl (fun _ => 0))), (q2, .inl (cA .int, 500, .inl (fun _ => 0))), (q3, .inl (cA .int, 40, .inl (fun _ => 0)))] := hD
  refine W.cs (cells' := 4) (slots' := 640) rfl rfl ?_
  refine va_putF (D := D) (ci := 2) (v := .ref q3) (ty := .array .int) (C := gR2) (T := gT2) (N := 8) hx hb htb gx_lay2 gY2 gY2_ok gN2 hown hK hP hD hS 0 rfl rfl 4 (by decide) (htb _ (show Cond.fieldLink gR2 21 "GreatestFlow$Parts" "left" "[I" ∈ gx_TBL from gx_in1 121 rfl rfl)) (fun _ h9 => h9) rfl hin rfl (by decide +kernel) rfl rfl (Nat.le_of_ble_eq_true rfl) (show decode prog_4_method_1_code 34 = .ok (.putfield 21, 3) by decide +kernel) (fun H locs hP hD hS => ?_)
  have hP : va_P D gx_cl [(h0, .inr (2, [.ref q0, .ref q1, .int 0, .ref q2, .ref q3, .null, .null, .null])), (q0, .inl (cA .int, 50, .inl (fun _ => 0))), (q1, .inl (cA .int, 50, .inl (fun _ => 0))), (q2, .inl (cA .int, 500, .inl (fun _ => 0))), (q3, .inl (cA .int, 40, .inl (fun _ => 0)))] H := hP
  have hD : va_D A [(h0, .inr (2, [.ref q0, .ref q1, .int 0, .ref q2, .ref q3, .null, .null, .null])), (q0, .inl (cA .int, 50, .inl (fun _ => 0))), (q1, .inl (cA .int, 50, .inl (fun _ => 0))), (q2, .inl (cA .int, 500, .inl (fun _ => 0))), (q3, .inl (cA .int, 40, .inl (fun _ => 0)))] := hD
  refine lv_aload_n hx hb (show decode prog_4_method_1_code 37 = .ok (.aload_n 0, 1) by decide +kernel) rfl (lv_at hl 0 rfl) ?_
  refine lv_bipush (v := 10) hx hb (show decode prog_4_method_1_code 38 = .ok (.bipush 10, 2) by decide +kernel) (by decide) ?_
  refine gx_na (cA := cA) hx hb (ty := .int) rfl (htb _ gx_aI) rfl (gx_raI hK) hK hP hD hS hA 10 (by decide) (by decide) (by decide) (Nat.le_of_ble_eq_true rfl) (Nat.le_of_ble_eq_true rfl) (show decode prog_4_method_1_code 40 = .ok (.newarray .int, 2) by decide +kernel) (fun q4 H hP hD hS => ?_)
  have hP : va_P D gx_cl [(h0, .inr (2, [.ref q0, .ref q1, .int 0, .ref q2, .ref q3, .null, .null, .null])), (q0, .inl (cA .int, 50, .inl (fun _ => 0))), (q1, .inl (cA .int, 50, .inl (fun _ => 0))), (q2, .inl (cA .int, 500, .inl (fun _ => 0))), (q3, .inl (cA .int, 40, .inl (fun _ => 0))), (q4, .inl (cA .int, 10, .inl (fun _ => 0)))] H := hP
  have hD : va_D A [(h0, .inr (2, [.ref q0, .ref q1, .int 0, .ref q2, .ref q3, .null, .null, .null])), (q0, .inl (cA .int, 50, .inl (fun _ => 0))), (q1, .inl (cA .int, 50, .inl (fun _ => 0))), (q2, .inl (cA .int, 500, .inl (fun _ => 0))), (q3, .inl (cA .int, 40, .inl (fun _ => 0))), (q4, .inl (cA .int, 10, .inl (fun _ => 0)))] := hD
  refine W.cs (cells' := 5) (slots' := 650) rfl rfl ?_
  refine va_putF (D := D) (ci := 2) (v := .ref q4) (ty := .array .int) (C := gR2) (T := gT2) (N := 8) hx hb htb gx_lay2 gY2 gY2_ok gN2 hown hK hP hD hS 0 rfl rfl 5 (by decide) (htb _ (show Cond.fieldLink gR2 24 "GreatestFlow$Parts" "due" "[I" ∈ gx_TBL from gx_in1 122 rfl rfl)) (fun _ h9 => h9) rfl hin rfl (by decide +kernel) rfl rfl (Nat.le_of_ble_eq_true rfl) (show decode prog_4_method_1_code 42 = .ok (.putfield 24, 3) by decide +kernel) (fun H locs hP hD hS => ?_)
  have hP : va_P D gx_cl [(h0, .inr (2, [.ref q0, .ref q1, .int 0, .ref q2, .ref q3, .ref q4, .null, .null])), (q0, .inl (cA .int, 50, .inl (fun _ => 0))), (q1, .inl (cA .int, 50, .inl (fun _ => 0))), (q2, .inl (cA .int, 500, .inl (fun _ => 0))), (q3, .inl (cA .int, 40, .inl (fun _ => 0))), (q4, .inl (cA .int, 10, .inl (fun _ => 0)))] H := hP
  have hD : va_D A [(h0, .inr (2, [.ref q0, .ref q1, .int 0, .ref q2, .ref q3, .ref q4, .null, .null])), (q0, .inl (cA .int, 50, .inl (fun _ => 0))), (q1, .inl (cA .int, 50, .inl (fun _ => 0))), (q2, .inl (cA .int, 500, .inl (fun _ => 0))), (q3, .inl (cA .int, 40, .inl (fun _ => 0))), (q4, .inl (cA .int, 10, .inl (fun _ => 0)))] := hD
  refine lv_aload_n hx hb (show decode prog_4_method_1_code 45 = .ok (.aload_n 0, 1) by decide +kernel) rfl (lv_at hl 0 rfl) ?_
  refine lv_bipush (v := 10) hx hb (show decode prog_4_method_1_code 46 = .ok (.bipush 10, 2) by decide +kernel) (by decide) ?_
  refine gx_na (cA := cA) hx hb (ty := .int) rfl (htb _ gx_aI) rfl (gx_raI hK) hK hP hD hS hA 10 (by decide) (by decide) (by decide) (Nat.le_of_ble_eq_true rfl) (Nat.le_of_ble_eq_true rfl) (show decode prog_4_method_1_code 48 = .ok (.newarray .int, 2) by decide +kernel) (fun q5 H hP hD hS => ?_)
  have hP : va_P D gx_cl [(h0, .inr (2, [.ref q0, .ref q1, .int 0, .ref q2, .ref q3, .ref q4, .null, .null])), (q0, .inl (cA .int, 50, .inl (fun _ => 0))), (q1, .inl (cA .int, 50, .inl (fun _ => 0))), (q2, .inl (cA .int, 500, .inl (fun _ => 0))), (q3, .inl (cA .int, 40, .inl (fun _ => 0))), (q4, .inl (cA .int, 10, .inl (fun _ => 0))), (q5, .inl (cA .int, 10, .inl (fun _ => 0)))] H := hP
  have hD : va_D A [(h0, .inr (2, [.ref q0, .ref q1, .int 0, .ref q2, .ref q3, .ref q4, .null, .null])), (q0, .inl (cA .int, 50, .inl (fun _ => 0))), (q1, .inl (cA .int, 50, .inl (fun _ => 0))), (q2, .inl (cA .int, 500, .inl (fun _ => 0))), (q3, .inl (cA .int, 40, .inl (fun _ => 0))), (q4, .inl (cA .int, 10, .inl (fun _ => 0))), (q5, .inl (cA .int, 10, .inl (fun _ => 0)))] := hD
  refine W.cs (cells' := 6) (slots' := 660) rfl rfl ?_
  refine va_putF (D := D) (ci := 2) (v := .ref q5) (ty := .array .int) (C := gR2) (T := gT2) (N := 8) hx hb htb gx_lay2 gY2 gY2_ok gN2 hown hK hP hD hS 0 rfl rfl 6 (by decide) (htb _ (show Cond.fieldLink gR2 27 "GreatestFlow$Parts" "placeOf" "[I" ∈ gx_TBL from gx_in1 123 rfl rfl)) (fun _ h9 => h9) rfl hin rfl (by decide +kernel) rfl rfl (Nat.le_of_ble_eq_true rfl) (show decode prog_4_method_1_code 50 = .ok (.putfield 27, 3) by decide +kernel) (fun H locs hP hD hS => ?_)
  have hP : va_P D gx_cl [(h0, .inr (2, [.ref q0, .ref q1, .int 0, .ref q2, .ref q3, .ref q4, .ref q5, .null])), (q0, .inl (cA .int, 50, .inl (fun _ => 0))), (q1, .inl (cA .int, 50, .inl (fun _ => 0))), (q2, .inl (cA .int, 500, .inl (fun _ => 0))), (q3, .inl (cA .int, 40, .inl (fun _ => 0))), (q4, .inl (cA .int, 10, .inl (fun _ => 0))), (q5, .inl (cA .int, 10, .inl (fun _ => 0)))] H := hP
  have hD : va_D A [(h0, .inr (2, [.ref q0, .ref q1, .int 0, .ref q2, .ref q3, .ref q4, .ref q5, .null])), (q0, .inl (cA .int, 50, .inl (fun _ => 0))), (q1, .inl (cA .int, 50, .inl (fun _ => 0))), (q2, .inl (cA .int, 500, .inl (fun _ => 0))), (q3, .inl (cA .int, 40, .inl (fun _ => 0))), (q4, .inl (cA .int, 10, .inl (fun _ => 0))), (q5, .inl (cA .int, 10, .inl (fun _ => 0)))] := hD
  refine lv_aload_n hx hb (show decode prog_4_method_1_code 53 = .ok (.aload_n 0, 1) by decide +kernel) rfl (lv_at hl 0 rfl) ?_
  refine lv_bipush (v := 10) hx hb (show decode prog_4_method_1_code 54 = .ok (.bipush 10, 2) by decide +kernel) (by decide) ?_
  refine gx_na (cA := cA) hx hb (ty := .int) rfl (htb _ gx_aI) rfl (gx_raI hK) hK hP hD hS hA 10 (by decide) (by decide) (by decide) (Nat.le_of_ble_eq_true rfl) (Nat.le_of_ble_eq_true rfl) (show decode prog_4_method_1_code 56 = .ok (.newarray .int, 2) by decide +kernel) (fun q6 H hP hD hS => ?_)
  have hP : va_P D gx_cl [(h0, .inr (2, [.ref q0, .ref q1, .int 0, .ref q2, .ref q3, .ref q4, .ref q5, .null])), (q0, .inl (cA .int, 50, .inl (fun _ => 0))), (q1, .inl (cA .int, 50, .inl (fun _ => 0))), (q2, .inl (cA .int, 500, .inl (fun _ => 0))), (q3, .inl (cA .int, 40, .inl (fun _ => 0))), (q4, .inl (cA .int, 10, .inl (fun _ => 0))), (q5, .inl (cA .int, 10, .inl (fun _ => 0))), (q6, .inl (cA .int, 10, .inl (fun _ => 0)))] H := hP
  have hD : va_D A [(h0, .inr (2, [.ref q0, .ref q1, .int 0, .ref q2, .ref q3, .ref q4, .ref q5, .null])), (q0, .inl (cA .int, 50, .inl (fun _ => 0))), (q1, .inl (cA .int, 50, .inl (fun _ => 0))), (q2, .inl (cA .int, 500, .inl (fun _ => 0))), (q3, .inl (cA .int, 40, .inl (fun _ => 0))), (q4, .inl (cA .int, 10, .inl (fun _ => 0))), (q5, .inl (cA .int, 10, .inl (fun _ => 0))), (q6, .inl (cA .int, 10, .inl (fun _ => 0)))] := hD
  refine W.cs (cells' := 7) (slots' := 670) rfl rfl ?_
  refine va_putF (D := D) (ci := 2) (v := .ref q6) (ty := .array .int) (C := gR2) (T := gT2) (N := 8) hx hb htb gx_lay2 gY2 gY2_ok gN2 hown hK hP hD hS 0 rfl rfl 7 (by decide) (htb _ (show Cond.fieldLink gR2 30 "GreatestFlow$Parts" "path" "[I" ∈ gx_TBL from gx_in1 124 rfl rfl)) (fun _ h9 => h9) rfl hin rfl (by decide +kernel) rfl rfl (Nat.le_of_ble_eq_true rfl) (show decode prog_4_method_1_code 58 = .ok (.putfield 30, 3) by decide +kernel) (fun H locs hP hD hS => ?_)
  have hP : va_P D gx_cl [(h0, .inr (2, [.ref q0, .ref q1, .int 0, .ref q2, .ref q3, .ref q4, .ref q5, .ref q6])), (q0, .inl (cA .int, 50, .inl (fun _ => 0))), (q1, .inl (cA .int, 50, .inl (fun _ => 0))), (q2, .inl (cA .int, 500, .inl (fun _ => 0))), (q3, .inl (cA .int, 40, .inl (fun _ => 0))), (q4, .inl (cA .int, 10, .inl (fun _ => 0))), (q5, .inl (cA .int, 10, .inl (fun _ => 0))), (q6, .inl (cA .int, 10, .inl (fun _ => 0)))] H := hP
  have hD : va_D A [(h0, .inr (2, [.ref q0, .ref q1, .int 0, .ref q2, .ref q3, .ref q4, .ref q5, .ref q6])), (q0, .inl (cA .int, 50, .inl (fun _ => 0))), (q1, .inl (cA .int, 50, .inl (fun _ => 0))), (q2, .inl (cA .int, 500, .inl (fun _ => 0))), (q3, .inl (cA .int, 40, .inl (fun _ => 0))), (q4, .inl (cA .int, 10, .inl (fun _ => 0))), (q5, .inl (cA .int, 10, .inl (fun _ => 0))), (q6, .inl (cA .int, 10, .inl (fun _ => 0)))] := hD
  exact W.vret hx hb hr (fun t ht hW => ⟨⟨(fun i => [q0, q1, q2, q3, q4, q5, q6].getD i 0), rfl, trivial, by rw [ht]; exact hP, va_K.moved hW.alike hK, hD⟩, hS.F ht⟩) hS.2.2 (show decode prog_4_method_1_code 61 = .ok (.return_, 1) by decide +kernel)
def gy_Model : MethodName := ⟨"GreatestFlowModel", "<init>", "()V"⟩
def gw_Model : List Cond := .code gy_Model prog_6_method_1_code 1 none :: gx_TBL
theorem gw_Model_in : Cond.code gy_Model prog_6_method_1_code 1 none ∈ gx_TBL := gx_in2 209 rfl rfl
/-- the cells behind GreatestFlowModel() -/
abbrev gz_Model (cA : FieldType → ClassId) (h0 : Nat) (u : Nat → Nat) : va_W := [(h0, .inr (4, [.int 0, .ref (u 0), .ref (u 1), .int 0, .ref (u 2), .ref (u 3), .ref (u 4), .ref (u 5), .ref (u 6), .int 0, .ref (u 7), .ref (u 8), .ref (u 9), .ref (u 10), .ref (u 11), .ref (u 12), .int 0, .int 0, .ref (u 13), .ref (u 14), .ref (u 15), .int 0, .ref (u 16), .ref (u 17), .ref (u 18), .ref (u 19), .ref (u 20), .ref (u 21), .ref (u 22)])), (u 0, .inl (cA .int, 10, .inl (fun _ => 0))), (u 1, .inl (cA .int, 10, .inl (fun _ => 0))), (u 2, .inl (cA .int, 40, .inl (fun _ => 0))), (u 3, .inl (cA .int, 40, .inl (fun _ => 0))), (u 4, .inl (cA .int, 40, .inl (fun _ => 0))), (u 5, .inl (cA .int, 40, .inl (fun _ => 0))), (u 6, .inl (cA .boolean, 40, .inl (fun _ => 0))), (u 7, .inl (cA .int, 40, .inl (fun _ => 0))), (u 8, .inl (cA .int, 40, .inl (fun _ => 0))), (u 9, .inl (cA .int, 10, .inl (fun _ => 0))), (u 10, .inl (cA .int, 576, .inl (fun _ => 0))), (u 11, .inl (cA .int, 24, .inl (fun _ => 0))), (u 12, .inl (cA .int, 24, .inl (fun _ => 0))), (u 13, .inl (cA .int, 2, .inl (fun _ => 0))), (u 14, .inl (cA .int, 80, .inl (fun _ => 0))), (u 15, .inl (cA .boolean, 40, .inl (fun _ => 0))), (u 16, .inl (cA .int, 80, .inl (fun _ => 0))), (u 17, .inl (cA .int, 80, .inl (fun _ => 0))), (u 18, .inl (cA .int, 800, .inl (fun _ => 0))), (u 19, .inl (cA .int, 40, .inl (fun _ => 0))), (u 20, .inl (cA .int, 10, .inl (fun _ => 0))), (u 21, .inl (cA .int, 12, .inl (fun _ => 0))), (u 22, .inl (cA .int, 10, .inl (fun _ => 0)))]
set_option maxHeartbeats 4000000 in
set_option maxRecDepth 100000 in
theorem gc_Model (l : Launch) (D : va_G) (cA : FieldType → ClassId) (h0 sz : Nat) : Met l gy_Model gw_Model ({ frames := 1, cells := 23, slots := 2088, locals := 12 }) (va_Pc [.ref h0] (fun U => U.heap.size = sz ∧ va_P D gx_cl [(h0, .inr (4, [.int 0, .null, .null, .int 0, .null, .null, .null, .null, .null, .int 0, .null, .null, .null, .null, .null, .null, .int 0, .int 0, .null, .null, .null, .int 0, .null, .null, .null, .null, .null, .null, .null]))] U.heap ∧ va_K D gx_cl (gx_tys cA) U ∧ va_D (fun _ => True) [(h0, .inr (4, [.int 0, .null, .null, .int 0, .null, .null, .null, .null, .null, .int 0, .null, .null, .null, .null, .null, .null, .int 0, .int 0, .null, .null, .null, .int 0, .null, .null, .null, .null, .null, .null, .null]))])) (va_Qv (fun _ : Nat → Nat => True) (fun u t => va_P D gx_cl (gz_Model cA h0 u) t.heap ∧ va_K D gx_cl (gx_tys cA) t ∧ va_D (va_A [(h0, .inr (4, [.int 0, .null, .null, .int 0, .null, .null, .null, .null, .null, .int 0, .null, .null, .null, .null, .null, .null, .int 0, .int 0, .null, .null, .null, .int 0, .null, .null, .null, .null, .null, .null, .null]))] sz) (gz_Model cA h0 u)) (va_A [(h0, .inr (4, [.int 0, .null, .null, .int 0, .null, .null, .null, .null, .null, .int 0, .null, .null, .null, .null, .null, .null, .int 0, .int 0, .null, .null, .null, .int 0, .null, .null, .null, .null, .null, .null, .null]))] sz)) 23 2088 (va_A [(h0, .inr (4, [.int 0, .null, .null, .int 0, .null, .null, .null, .null, .null, .int 0, .null, .null, .null, .null, .null, .null, .int 0, .int 0, .null, .null, .null, .int 0, .null, .null, .null, .null, .null, .null, .null]))] sz) := by
  refine Met.ofW (cc := prog_6_method_1_code) (maxL := 1) (ret := none) (by decide) rfl ?_
  intro p e s m args below meth c s₁ B hml hv
  obtain ⟨rfl, hsz, hP, hK, hD0⟩ := hv
  have hx := B.exec
  have hb := B.bytes
  have hr := B.returns
  have hts := atoms_spec (ws := gw_Model) B.pre
  have htb : ∀ w ∈ gx_TBL, w.before #[Value.ref h0] s = true := fun w hw => hts w (List.mem_cons_of_mem _ hw)
  have hown : s.vm.findClass gR4 = some m.cls := findClass_of_methodNamed B.named
  have hlocks := B.notSynchronized
  have hin : meth.name = "<init>" := (name_of_methodNamed B.named B.method).1
  subst hsz
  have hD := hD0.self (sz := s.heap.size)
  generalize hAe : va_A [(h0, .inr (4, [.int 0, .null, .null, .int 0, .null, .null, .null, .null, .null, .int 0, .null, .null, .null, .null, .null, .null, .int 0, .int 0, .null, .null, .null, .int 0, .null, .null, .null, .null, .null, .null, .null]))] s.heap.size = A at hD ⊢
  have hA : ∀ q : Nat, s.heap.size ≤ q → A q := fun q h => by rw [← hAe]; exact Or.inr h
  have hS : va_S A s.heap s.heap [] := va_S.rf
  have hl := lv_entry ([.ref h0]) (n := 1) (Nat.le_of_ble_eq_true rfl)
  rw [lg_entry_eq]
  generalize (lg_sl ([.ref h0]) ++ List.replicate (1 - (lg_sl ([.ref h0])).length) Slot.unset).toArray = ls at hl ⊢
  have hl : lv_has ls 1 [(0, .ref h0)] := hl
  refine lv_aload_n hx hb (show decode prog_6_method_1_code 0 = .ok (.aload_n 0, 1) by decide +kernel) rfl (lv_at hl 0 rfl) ?_
  refine W.objInit hx hb hown (htb _ (show Cond.methodLink gR4 1 objectInit ∈ gx_TBL from gx_in2 210 rfl rfl)) (htb _ gx_oi) (htb _ gx_oc) rfl (by rw [hml]; exact hl.1) rfl (show decode prog_6_method_1_code 1 = .ok (.invokespecial 1, 3) by decide +kernel) (Nat.le_of_ble_eq_true rfl) (Nat.le_of_ble_eq_true rfl) ?_
  refine W.eq (g2 := F0 m 4 ls []) rfl ?_
  refine lv_aload_n hx hb (show decode prog_6_method_1_code 4 = .ok (.aload_n 0, 1) by decide +kernel) rfl (lv_at hl 0 rfl) ?_
  refine lv_bipush (v := 10) hx hb (show decode prog_6_method_1_code 5 = .ok (.bipush 10, 2) by decide +kernel) (by decide) ?_
  refine gx_na (cA := cA) hx hb (ty := .int) rfl (htb _ gx_aI) rfl (gx_raI hK) hK hP hD hS hA 10 (by decide) (by decide) (by decide) (Nat.le_of_ble_eq_true rfl) (Nat.le_of_ble_eq_true rfl) (show decode prog_6_method_1_code 7 = .ok (.newarray .int, 2) by decide +kernel) (fun q0 H hP hD hS => ?_)
  have hP : va_P D gx_cl [(h0, .inr (4, [.int 0, .null, .null, .int 0, .null, .null, .null, .null, .null, .int 0, .null, .null, .null, .null, .null, .null, .int 0, .int 0, .null, .null, .null, .int 0, .null, .null, .null, .null, .null, .null, .null])), (q0, .inl (cA .int, 10, .inl (fun _ => 0)))] H := hP
  have hD : va_D A [(h0, .inr (4, [.int 0, .null, .null, .int 0, .null, .null, .null, .null, .null, .int 0, .null, .null, .null, .null, .null, .null, .int 0, .int 0, .null, .null, .null, .int 0, .null, .null, .null, .null, .null, .null, .null])), (q0, .inl (cA .int, 10, .inl (fun _ => 0)))] := hD
  refine W.cs (cells' := 1) (slots' := 10) rfl rfl ?_
  refine va_putF (D := D) (ci := 4) (v := .ref q0) (ty := .array .int) (C := gR4) (T := gT4) (N := 29) hx hb htb gx_lay4 gY4 gY4_ok gN4 hown hK hP hD hS 0 rfl rfl 1 (by decide) (htb _ (show Cond.fieldLink gR4 7 "GreatestFlowModel" "kinds" "[I" ∈ gx_TBL from gx_in2 212 rfl rfl)) (fun _ h9 => h9) rfl hin rfl (by decide +kernel) rfl rfl (Nat.le_of_ble_eq_true rfl) (show decode prog_6_method_1_code 9 = .ok (.putfield 7, 3) by decide +kernel) (fun H locs hP hD hS => ?_)
  have hP : va_P D gx_cl [(h0, .inr (4, [.int 0, .ref q0, .null, .int 0, .null, .null, .null, .null, .null, .int 0, .null, .null, .null, .null, .null, .null, .int 0, .int 0, .null, .null, .null, .int 0, .null, .null, .null, .null, .null, .null, .null])), (q0, .inl (cA .int, 10, .inl (fun _ => 0)))] H := hP
  have hD : va_D A [(h0, .inr (4, [.int 0, .ref q0, .null, .int 0, .null, .null, .null, .null, .null, .int 0, .null, .null, .null, .null, .null, .null, .int 0, .int 0, .null, .null, .null, .int 0, .null, .null, .null, .null, .null, .null, .null])), (q0, .inl (cA .int, 10, .inl (fun _ => 0)))] := hD
  refine lv_aload_n hx hb (show decode prog_6_method_1_code 12 = .ok (.aload_n 0, 1) by decide +kernel) rfl (lv_at hl 0 rfl) ?_
  refine lv_bipush (v := 10) hx hb (show decode prog_6_method_1_code 13 = .ok (.bipush 10, 2) by decide +kernel) (by decide) ?_
  refine gx_na (cA := cA) hx hb (ty := .int) rfl (htb _ gx_aI) rfl (gx_raI hK) hK hP hD hS hA 10 (by decide) (by decide) (by decide) (Nat.le_of_ble_eq_true rfl) (Nat.le_of_ble_eq_true rfl) (show decode prog_6_method_1_code 15 = .ok (.newarray .int, 2) by decide +kernel) (fun q1 H hP hD hS => ?_)
  have hP : va_P D gx_cl [(h0, .inr (4, [.int 0, .ref q0, .null, .int 0, .null, .null, .null, .null, .null, .int 0, .null, .null, .null, .null, .null, .null, .int 0, .int 0, .null, .null, .null, .int 0, .null, .null, .null, .null, .null, .null, .null])), (q0, .inl (cA .int, 10, .inl (fun _ => 0))), (q1, .inl (cA .int, 10, .inl (fun _ => 0)))] H := hP
  have hD : va_D A [(h0, .inr (4, [.int 0, .ref q0, .null, .int 0, .null, .null, .null, .null, .null, .int 0, .null, .null, .null, .null, .null, .null, .int 0, .int 0, .null, .null, .null, .int 0, .null, .null, .null, .null, .null, .null, .null])), (q0, .inl (cA .int, 10, .inl (fun _ => 0))), (q1, .inl (cA .int, 10, .inl (fun _ => 0)))] := hD
  refine W.cs (cells' := 2) (slots' := 20) rfl rfl ?_
  refine va_putF (D := D) (ci := 4) (v := .ref q1) (ty := .array .int) (C := gR4) (T := gT4) (N := 29) hx hb htb gx_lay4 gY4 gY4_ok gN4 hown hK hP hD hS 0 rfl rfl 2 (by decide) (htb _ (show Cond.fieldLink gR4 13 "GreatestFlowModel" "bounds" "[I" ∈ gx_TBL from gx_in2 213 rfl rfl)) (fun _ h9 => h9) rfl hin rfl (by decide +kernel) rfl rfl (Nat.le_of_ble_eq_true rfl) (show decode prog_6_method_1_code 17 = .ok (.putfield 13, 3) by decide +kernel) (fun H locs hP hD hS => ?_)
  have hP : va_P D gx_cl [(h0, .inr (4, [.int 0, .ref q0, .ref q1, .int 0, .null, .null, .null, .null, .null, .int 0, .null, .null, .null, .null, .null, .null, .int 0, .int 0, .null, .null, .null, .int 0, .null, .null, .null, .null, .null, .null, .null])), (q0, .inl (cA .int, 10, .inl (fun _ => 0))), (q1, .inl (cA .int, 10, .inl (fun _ => 0)))] H := hP
  have hD : va_D A [(h0, .inr (4, [.int 0, .ref q0, .ref q1, .int 0, .null, .null, .null, .null, .null, .int 0, .null, .null, .null, .null, .null, .null, .int 0, .int 0, .null, .null, .null, .int 0, .null, .null, .null, .null, .null, .null, .null])), (q0, .inl (cA .int, 10, .inl (fun _ => 0))), (q1, .inl (cA .int, 10, .inl (fun _ => 0)))] := hD
  refine lv_aload_n hx hb (show decode prog_6_method_1_code 20 = .ok (.aload_n 0, 1) by decide +kernel) rfl (lv_at hl 0 rfl) ?_
  refine lv_bipush (v := 40) hx hb (show decode prog_6_method_1_code 21 = .ok (.bipush 40, 2) by decide +kernel) (by decide) ?_
  refine gx_na (cA := cA) hx hb (ty := .int) rfl (htb _ gx_aI) rfl (gx_raI hK) hK hP hD hS hA 40 (by decide) (by decide) (by decide) (Nat.le_of_ble_eq_true rfl) (Nat.le_of_ble_eq_true rfl) (show decode prog_6_method_1_code 23 = .ok (.newarray .int, 2) by decide +kernel) (fun q2 H hP hD hS => ?_)
  have hP : va_P D gx_cl [(h0, .inr (4, [.int 0, .ref q0, .ref q1, .int 0, .null, .null, .null, .null, .null, .int 0, .null, .null, .null, .null, .null, .null, .int 0, .int 0, .null, .null, .null, .int 0, .null, .null, .null, .null, .null, .null, .null])), (q0, .inl (cA .int, 10, .inl (fun _ => 0))), (q1, .inl (cA .int, 10, .inl (fun _ => 0))), (q2, .inl (cA .int, 40, .inl (fun _ => 0)))] H := hP
  have hD : va_D A [(h0, .inr (4, [.int 0, .ref q0, .ref q1, .int 0, .null, .null, .null, .null, .null, .int 0, .null, .null, .null, .null, .null, .null, .int 0, .int 0, .null, .null, .null, .int 0, .null, .null, .null, .null, .null, .null, .null])), (q0, .inl (cA .int, 10, .inl (fun _ => 0))), (q1, .inl (cA .int, 10, .inl (fun _ => 0))), (q2, .inl (cA .int, 40, .inl (fun _ => 0)))] := hD
  refine W.cs (cells' := 3) (slots' := 60) rfl rfl ?_
  refine va_putF (D := D) (ci := 4) (v := .ref q2) (ty := .array .int) (C := gR4) (T := gT4) (N := 29) hx hb htb gx_lay4 gY4 gY4_ok gN4 hown hK hP hD hS 0 rfl rfl 4 (by decide) (htb _ (show Cond.fieldLink gR4 16 "GreatestFlowModel" "from" "[I" ∈ gx_TBL from gx_in2 215 rfl rfl)) (fun _ h9 => h9) rfl hin rfl (by decide +kernel) rfl rfl (Nat.le_of_ble_eq_true rfl) (show decode prog_6_method_1_code 25 = .ok (.putfield 16, 3) by decide +kernel) (fun H locs hP hD hS => ?_)
  have hP : va_P D gx_cl [(h0, .inr (4, [.int 0, .ref q0, .ref q1, .int 0, .ref q2, .null, .null, .null, .null, .int 0, .null, .null, .null, .null, .null, .null, .int 0, .int 0, .null, .null, .null, .int 0, .null, .null, .null, .null, .null, .null, .null])), (q0, .inl (cA .int, 10, .inl (fun _ => 0))), (q1, .inl (cA .int, 10, .inl (fun _ => 0))), (q2, .inl (cA .int, 40, .inl (fun _ => 0)))] H := hP
  have hD : va_D A [(h0, .inr (4, [.int 0, .ref q0, .ref q1, .int 0, .ref q2, .null, .null, .null, .null, .int 0, .null, .null, .null, .null, .null, .null, .int 0, .int 0, .null, .null, .null, .int 0, .null, .null, .null, .null, .null, .null, .null])), (q0, .inl (cA .int, 10, .inl (fun _ => 0))), (q1, .inl (cA .int, 10, .inl (fun _ => 0))), (q2, .inl (cA .int, 40, .inl (fun _ => 0)))] := hD
  refine lv_aload_n hx hb (show decode prog_6_method_1_code 28 = .ok (.aload_n 0, 1) by decide +kernel) rfl (lv_at hl 0 rfl) ?_
  refine lv_bipush (v := 40) hx hb (show decode prog_6_method_1_code 29 = .ok (.bipush 40, 2) by decide +kernel) (by decide) ?_
  refine gx_na (cA := cA) hx hb (ty := .int) rfl (htb _ gx_aI) rfl (gx_raI hK) hK hP hD hS hA 40 (by decide) (by decide) (by decide) (Nat.le_of_ble_eq_true rfl) (Nat.le_of_ble_eq_true rfl) (show decode prog_6_method_1_code 31 = .ok (.newarray .int, 2) by decide +kernel) (fun q3 H hP hD hS => ?_)
  have hP : va_P D gx_cl [(h0, .inr (4, [.int 0, .ref q0, .ref q1, .int 0, .ref q2, .null, .null, .null, .null, .int 0, .null, .null, .null, .null, .null, .null, .int 0, .int 0, .null, .null, .null, .int 0, .null, .null, .null, .null, .null, .null, .null])), (q0, .inl (cA .int, 10, .inl (fun _ => 0))), (q1, .inl (cA .int, 10, .inl (fun _ => 0))), (q2, .inl (cA .int, 40, .inl (fun _ => 0))), (q3, .inl (cA .int, 40, .inl (fun _ => 0)))] H := hP
  have hD : va_D A [(h0, .inr (4, [.int 0, .ref q0, .ref q1, .int 0, .ref q2, .null, .null, .null, .null, .int 0, .null, .null, .null, .null, .null, .null, .int 0, .int 0, .null, .null, .null, .int 0, .null, .null, .null, .null, .null, .null, .null])), (q0, .inl (cA .int, 10, .inl (fun _ => 0))), (q1, .inl (cA .int, 10, .inl (fun _ => 0))), (q2, .inl (cA .int, 40, .inl (fun _ => 0))), (q3, .inl (cA .int, 40, .inl (fun _ => 0)))] := hD
  refine W.cs (cells' := 4) (slots' := 100) rfl rfl ?_
  refine va_putF (D := D) (ci := 4) (v := .ref q3) (ty := .array .int) (C := gR4) (T := gT4) (N := 29) hx hb htb gx_lay4 gY4 gY4_ok gN4 hown hK hP hD hS 0 rfl rfl 5 (by decide) (htb _ (show Cond.fieldLink gR4 19 "GreatestFlowModel" "to" "[I" ∈ gx_TBL from gx_in2 216 rfl rfl)) (fun _ h9 => h9) rfl hin rfl (by decide +kernel) rfl rfl (Nat.le_of_ble_eq_true rfl) (show decode prog_6_method_1_code 33 = .ok (.putfield 19, 3) by decide +kernel) (fun H locs hP hD hS => ?_)
  have hP : va_P D gx_cl [(h0, .inr (4, [.int 0, .ref q0, .ref q1, .int 0, .ref q2, .ref q3, .null, .null, .null, .int 0, .null, .null, .null, .null, .null, .null, .int 0, .int 0, .null, .null, .null, .int 0, .null, .null, .null, .null, .null, .null, .null])), (q0, .inl (cA .int, 10, .inl (fun _ => 0))), (q1, .inl (cA .int, 10, .inl (fun _ => 0))), (q2, .inl (cA .int, 40, .inl (fun _ => 0))), (q3, .inl (cA .int, 40, .inl (fun _ => 0)))] H := hP
  have hD : va_D A [(h0, .inr (4, [.int 0, .ref q0, .ref q1, .int 0, .ref q2, .ref q3, .null, .null, .null, .int 0, .null, .null, .null, .null, .null, .null, .int 0, .int 0, .null, .null, .null, .int 0, .null, .null, .null, .null, .null, .null, .null])), (q0, .inl (cA .int, 10, .inl (fun _ => 0))), (q1, .inl (cA .int, 10, .inl (fun _ => 0))), (q2, .inl (cA .int, 40, .inl (fun _ => 0))), (q3, .inl (cA .int, 40, .inl (fun _ => 0)))] := hD
  refine lv_aload_n hx hb (show decode prog_6_method_1_code 36 = .ok (.aload_n 0, 1) by decide +kernel) rfl (lv_at hl 0 rfl) ?_
  refine lv_bipush (v := 40) hx hb (show decode prog_6_method_1_code 37 = .ok (.bipush 40, 2) by decide +kernel) (by decide) ?_
  refine gx_na (cA := cA) hx hb (ty := .int) rfl (htb _ gx_aI) rfl (gx_raI hK) hK hP hD hS hA 40 (by decide) (by decide) (by decide) (Nat.le_of_ble_eq_true rfl) (Nat.le_of_ble_eq_true rfl) (show decode prog_6_method_1_code 39 = .ok (.newarray .int, 2) by decide +kernel) (fun q4 H hP hD hS => ?_)
  have hP : va_P D gx_cl [(h0, .inr (4, [.int 0, .ref q0, .ref q1, .int 0, .ref q2, .ref q3, .null, .null, .null, .int 0, .null, .null, .null, .null, .null, .null, .int 0, .int 0, .null, .null, .null, .int 0, .null, .null, .null, .null, .null, .null, .null])), (q0, .inl (cA .int, 10, .inl (fun _ => 0))), (q1, .inl (cA .int, 10, .inl (fun _ => 0))), (q2, .inl (cA .int, 40, .inl (fun _ => 0))), (q3, .inl (cA .int, 40, .inl (fun _ => 0))), (q4, .inl (cA .int, 40, .inl (fun _ => 0)))] H := hP
  have hD : va_D A [(h0, .inr (4, [.int 0, .ref q0, .ref q1, .int 0, .ref q2, .ref q3, .null, .null, .null, .int 0, .null, .null, .null, .null, .null, .null, .int 0, .int 0, .null, .null, .null, .int 0, .null, .null, .null, .null, .null, .null, .null])), (q0, .inl (cA .int, 10, .inl (fun _ => 0))), (q1, .inl (cA .int, 10, .inl (fun _ => 0))), (q2, .inl (cA .int, 40, .inl (fun _ => 0))), (q3, .inl (cA .int, 40, .inl (fun _ => 0))), (q4, .inl (cA .int, 40, .inl (fun _ => 0)))] := hD
  refine W.cs (cells' := 5) (slots' := 140) rfl rfl ?_
  refine va_putF (D := D) (ci := 4) (v := .ref q4) (ty := .array .int) (C := gR4) (T := gT4) (N := 29) hx hb htb gx_lay4 gY4 gY4_ok gN4 hown hK hP hD hS 0 rfl rfl 6 (by decide) (htb _ (show Cond.fieldLink gR4 22 "GreatestFlowModel" "least" "[I" ∈ gx_TBL from gx_in2 217 rfl rfl)) (fun _ h9 => h9) rfl hin rfl (by decide +kernel) rfl rfl (Nat.le_of_ble_eq_true rfl) (show decode prog_6_method_1_code 41 = .ok (.putfield 22, 3) by decide +kernel) (fun H locs hP hD hS => ?_)
  have hP : va_P D gx_cl [(h0, .inr (4, [.int 0, .ref q0, .ref q1, .int 0, .ref q2, .ref q3, .ref q4, .null, .null, .int 0, .null, .null, .null, .null, .null, .null, .int 0, .int 0, .null, .null, .null, .int 0, .null, .null, .null, .null, .null, .null, .null])), (q0, .inl (cA .int, 10, .inl (fun _ => 0))), (q1, .inl (cA .int, 10, .inl (fun _ => 0))), (q2, .inl (cA .int, 40, .inl (fun _ => 0))), (q3, .inl (cA .int, 40, .inl (fun _ => 0))), (q4, .inl (cA .int, 40, .inl (fun _ => 0)))] H := hP
  have hD : va_D A [(h0, .inr (4, [.int 0, .ref q0, .ref q1, .int 0, .ref q2, .ref q3, .ref q4, .null, .null, .int 0, .null, .null, .null, .null, .null, .null, .int 0, .int 0, .null, .null, .null, .int 0, .null, .null, .null, .null, .null, .null, .null])), (q0, .inl (cA .int, 10, .inl (fun _ => 0))), (q1, .inl (cA .int, 10, .inl (fun _ => 0))), (q2, .inl (cA .int, 40, .inl (fun _ => 0))), (q3, .inl (cA .int, 40, .inl (fun _ => 0))), (q4, .inl (cA .int, 40, .inl (fun _ => 0)))] := hD
  refine lv_aload_n hx hb (show decode prog_6_method_1_code 44 = .ok (.aload_n 0, 1) by decide +kernel) rfl (lv_at hl 0 rfl) ?_
  refine lv_bipush (v := 40) hx hb (show decode prog_6_method_1_code 45 = .ok (.bipush 40, 2) by decide +kernel) (by decide) ?_
  refine gx_na (cA := cA) hx hb (ty := .int) rfl (htb _ gx_aI) rfl (gx_raI hK) hK hP hD hS hA 40 (by decide) (by decide) (by decide) (Nat.le_of_ble_eq_true rfl) (Nat.le_of_ble_eq_true rfl) (show decode prog_6_method_1_code 47 = .ok (.newarray .int, 2) by decide +kernel) (fun q5 H hP hD hS => ?_)
  have hP : va_P D gx_cl [(h0, .inr (4, [.int 0, .ref q0, .ref q1, .int 0, .ref q2, .ref q3, .ref q4, .null, .null, .int 0, .null, .null, .null, .null, .null, .null, .int 0, .int 0, .null, .null, .null, .int 0, .null, .null, .null, .null, .null, .null, .null])), (q0, .inl (cA .int, 10, .inl (fun _ => 0))), (q1, .inl (cA .int, 10, .inl (fun _ => 0))), (q2, .inl (cA .int, 40, .inl (fun _ => 0))), (q3, .inl (cA .int, 40, .inl (fun _ => 0))), (q4, .inl (cA .int, 40, .inl (fun _ => 0))), (q5, .inl (cA .int, 40, .inl (fun _ => 0)))] H := hP
  have hD : va_D A [(h0, .inr (4, [.int 0, .ref q0, .ref q1, .int 0, .ref q2, .ref q3, .ref q4, .null, .null, .int 0, .null, .null, .null, .null, .null, .null, .int 0, .int 0, .null, .null, .null, .int 0, .null, .null, .null, .null, .null, .null, .null])), (q0, .inl (cA .int, 10, .inl (fun _ => 0))), (q1, .inl (cA .int, 10, .inl (fun _ => 0))), (q2, .inl (cA .int, 40, .inl (fun _ => 0))), (q3, .inl (cA .int, 40, .inl (fun _ => 0))), (q4, .inl (cA .int, 40, .inl (fun _ => 0))), (q5, .inl (cA .int, 40, .inl (fun _ => 0)))] := hD
  refine W.cs (cells' := 6) (slots' := 180) rfl rfl ?_
  refine va_putF (D := D) (ci := 4) (v := .ref q5) (ty := .array .int) (C := gR4) (T := gT4) (N := 29) hx hb htb gx_lay4 gY4 gY4_ok gN4 hown hK hP hD hS 0 rfl rfl 7 (by decide) (htb _ (show Cond.fieldLink gR4 25 "GreatestFlowModel" "most" "[I" ∈ gx_TBL from gx_in2 218 rfl rfl)) (fun _ h9 => h9) rfl hin rfl (by decide +kernel) rfl rfl (Nat.le_of_ble_eq_true rfl) (show decode prog_6_method_1_code 49 = .ok (.putfield 25, 3) by decide +kernel) (fun H locs hP hD hS => ?_)
  have hP : va_P D gx_cl [(h0, .inr (4, [.int 0, .ref q0, .ref q1, .int 0, .ref q2, .ref q3, .ref q4, .ref q5, .null, .int 0, .null, .null, .null, .null, .null, .null, .int 0, .int 0, .null, .null, .null, .int 0, .null, .null, .null, .null, .null, .null, .null])), (q0, .inl (cA .int, 10, .inl (fun _ => 0))), (q1, .inl (cA .int, 10, .inl (fun _ => 0))), (q2, .inl (cA .int, 40, .inl (fun _ => 0))), (q3, .inl (cA .int, 40, .inl (fun _ => 0))), (q4, .inl (cA .int, 40, .inl (fun _ => 0))), (q5, .inl (cA .int, 40, .inl (fun _ => 0)))] H := hP
  have hD : va_D A [(h0, .inr (4, [.int 0, .ref q0, .ref q1, .int 0, .ref q2, .ref q3, .ref q4, .ref q5, .null, .int 0, .null, .null, .null, .null, .null, .null, .int 0, .int 0, .null, .null, .null, .int 0, .null, .null, .null, .null, .null, .null, .null])), (q0, .inl (cA .int, 10, .inl (fun _ => 0))), (q1, .inl (cA .int, 10, .inl (fun _ => 0))), (q2, .inl (cA .int, 40, .inl (fun _ => 0))), (q3, .inl (cA .int, 40, .inl (fun _ => 0))), (q4, .inl (cA .int, 40, .inl (fun _ => 0))), (q5, .inl (cA .int, 40, .inl (fun _ => 0)))] := hD
  refine lv_aload_n hx hb (show decode prog_6_method_1_code 52 = .ok (.aload_n 0, 1) by decide +kernel) rfl (lv_at hl 0 rfl) ?_
  refine lv_bipush (v := 40) hx hb (show decode prog_6_method_1_code 53 = .ok (.bipush 40, 2) by decide +kernel) (by decide) ?_
  refine gx_na (cA := cA) hx hb (ty := .boolean) rfl (htb _ gx_aZ) rfl (gx_raZ hK) hK hP hD hS hA 40 (by decide) (by decide) (by decide) (Nat.le_of_ble_eq_true rfl) (Nat.le_of_ble_eq_true rfl) (show decode prog_6_method_1_code 55 = .ok (.newarray .boolean, 2) by decide +kernel) (fun q6 H hP hD hS => ?_)
  have hP : va_P D gx_cl [(h0, .inr (4, [.int 0, .ref q0, .ref q1, .int 0, .ref q2, .ref q3, .ref q4, .ref q5, .null, .int 0, .null, .null, .null, .null, .null, .null, .int 0, .int 0, .null, .null, .null, .int 0, .null, .null, .null, .null, .null, .null, .null])), (q0, .inl (cA .int, 10, .inl (fun _ => 0))), (q1, .inl (cA .int, 10, .inl (fun _ => 0))), (q2, .inl (cA .int, 40, .inl (fun _ => 0))), (q3, .inl (cA .int, 40, .inl (fun _ => 0))), (q4, .inl (cA .int, 40, .inl (fun _ => 0))), (q5, .inl (cA .int, 40, .inl (fun _ => 0))), (q6, .inl (cA .boolean, 40, .inl (fun _ => 0)))] H := hP
  have hD : va_D A [(h0, .inr (4, [.int 0, .ref q0, .ref q1, .int 0, .ref q2, .ref q3, .ref q4, .ref q5, .null, .int 0, .null, .null, .null, .null, .null, .null, .int 0, .int 0, .null, .null, .null, .int 0, .null, .null, .null, .null, .null, .null, .null])), (q0, .inl (cA .int, 10, .inl (fun _ => 0))), (q1, .inl (cA .int, 10, .inl (fun _ => 0))), (q2, .inl (cA .int, 40, .inl (fun _ => 0))), (q3, .inl (cA .int, 40, .inl (fun _ => 0))), (q4, .inl (cA .int, 40, .inl (fun _ => 0))), (q5, .inl (cA .int, 40, .inl (fun _ => 0))), (q6, .inl (cA .boolean, 40, .inl (fun _ => 0)))] := hD
  refine W.cs (cells' := 7) (slots' := 220) rfl rfl ?_
  refine va_putF (D := D) (ci := 4) (v := .ref q6) (ty := .array .boolean) (C := gR4) (T := gT4) (N := 29) hx hb htb gx_lay4 gY4 gY4_ok gN4 hown hK hP hD hS 0 rfl rfl 8 (by decide) (htb _ (show Cond.fieldLink gR4 28 "GreatestFlowModel" "alive" "[Z" ∈ gx_TBL from gx_in2 219 rfl rfl)) (fun _ h9 => h9) rfl hin rfl (by decide +kernel) rfl rfl (Nat.le_of_ble_eq_true rfl) (show decode prog_6_method_1_code 57 = .ok (.putfield 28, 3) by decide +kernel) (fun H locs hP hD hS => ?_)
  have hP : va_P D gx_cl [(h0, .inr (4, [.int 0, .ref q0, .ref q1, .int 0, .ref q2, .ref q3, .ref q4, .ref q5, .ref q6, .int 0, .null, .null, .null, .null, .null, .null, .int 0, .int 0, .null, .null, .null, .int 0, .null, .null, .null, .null, .null, .null, .null])), (q0, .inl (cA .int, 10, .inl (fun _ => 0))), (q1, .inl (cA .int, 10, .inl (fun _ => 0))), (q2, .inl (cA .int, 40, .inl (fun _ => 0))), (q3, .inl (cA .int, 40, .inl (fun _ => 0))), (q4, .inl (cA .int, 40, .inl (fun _ => 0))), (q5, .inl (cA .int, 40, .inl (fun _ => 0))), (q6, .inl (cA .boolean, 40, .inl (fun _ => 0)))] H := hP
  have hD : va_D A [(h0, .inr (4, [.int 0, .ref q0, .ref q1, .int 0, .ref q2, .ref q3, .ref q4, .ref q5, .ref q6, .int 0, .null, .null, .null, .null, .null, .null, .int 0, .int 0, .null, .null, .null, .int 0, .null, .null, .null, .null, .null, .null, .null])), (q0, .inl (cA .int, 10, .inl (fun _ => 0))), (q1, .inl (cA .int, 10, .inl (fun _ => 0))), (q2, .inl (cA .int, 40, .inl (fun _ => 0))), (q3, .inl (cA .int, 40, .inl (fun _ => 0))), (q4, .inl (cA .int, 40, .inl (fun _ => 0))), (q5, .inl (cA .int, 40, .inl (fun _ => 0))), (q6, .inl (cA .boolean, 40, .inl (fun _ => 0)))] := hD
  refine lv_aload_n hx hb (show decode prog_6_method_1_code 60 = .ok (.aload_n 0, 1) by decide +kernel) rfl (lv_at hl 0 rfl) ?_
  refine lv_bipush (v := 40) hx hb (show decode prog_6_method_1_code 61 = .ok (.bipush 40, 2) by decide +kernel) (by decide) ?_
  refine gx_na (cA := cA) hx hb (ty := .int) rfl (htb _ gx_aI) rfl (gx_raI hK) hK hP hD hS hA 40 (by decide) (by decide) (by decide) (Nat.le_of_ble_eq_true rfl) (Nat.le_of_ble_eq_true rfl) (show decode prog_6_method_1_code 63 = .ok (.newarray .int, 2) by decide +kernel) (fun q7 H hP hD hS => ?_)
  have hP : va_P D gx_cl [(h0, .inr (4, [.int 0, .ref q0, .ref q1, .int 0, .ref q2, .ref q3, .ref q4, .ref q5, .ref q6, .int 0, .null, .null, .null, .null, .null, .null, .int 0, .int 0, .null, .null, .null, .int 0, .null, .null, .null, .null, .null, .null, .null])), (q0, .inl (cA .int, 10, .inl (fun _ => 0))), (q1, .inl (cA .int, 10, .inl (fun _ => 0))), (q2, .inl (cA .int, 40, .inl (fun _ => 0))), (q3, .inl (cA .int, 40, .inl (fun _ => 0))), (q4, .inl (cA .int, 40, .inl (fun _ => 0))), (q5, .inl (cA .int, 40, .inl (fun _ => 0))), (q6, .inl (cA .boolean, 40, .inl (fun _ => 0))), (q7, .inl (cA .int, 40, .inl (fun _ => 0)))] H := hP
  have hD : va_D A [(h0, .inr (4, [.int 0, .ref q0, .ref q1, .int 0, .ref q2, .ref q3, .ref q4, .ref q5, .ref q6, .int 0, .null, .null, .null, .null, .null, .null, .int 0, .int 0, .null, .null, .null, .int 0, .null, .null, .null, .null, .null, .null, .null])), (q0, .inl (cA .int, 10, .inl (fun _ => 0))), (q1, .inl (cA .int, 10, .inl (fun _ => 0))), (q2, .inl (cA .int, 40, .inl (fun _ => 0))), (q3, .inl (cA .int, 40, .inl (fun _ => 0))), (q4, .inl (cA .int, 40, .inl (fun _ => 0))), (q5, .inl (cA .int, 40, .inl (fun _ => 0))), (q6, .inl (cA .boolean, 40, .inl (fun _ => 0))), (q7, .inl (cA .int, 40, .inl (fun _ => 0)))] := hD
  refine W.cs (cells' := 8) (slots' := 260) rfl rfl ?_
  refine va_putF (D := D) (ci := 4) (v := .ref q7) (ty := .array .int) (C := gR4) (T := gT4) (N := 29) hx hb htb gx_lay4 gY4 gY4_ok gN4 hown hK hP hD hS 0 rfl rfl 10 (by decide) (htb _ (show Cond.fieldLink gR4 32 "GreatestFlowModel" "low" "[I" ∈ gx_TBL from gx_in2 221 rfl rfl)) (fun _ h9 => h9) rfl hin rfl (by decide +kernel) rfl rfl (Nat.le_of_ble_eq_true rfl) (show decode prog_6_method_1_code 65 = .ok (.putfield 32, 3) by decide +kernel) (fun H locs hP hD hS => ?_)
  have hP : va_P D gx_cl [(h0, .inr (4, [.int 0, .ref q0, .ref q1, .int 0, .ref q2, .ref q3, .ref q4, .ref q5, .ref q6, .int 0, .ref q7, .null, .null, .null, .null, .null, .int 0, .int 0, .null, .null, .null, .int 0, .null, .null, .null, .null, .null, .null, .null])), (q0, .inl (cA .int, 10, .inl (fun _ => 0))), (q1, .inl (cA .int, 10, .inl (fun _ => 0))), (q2, .inl (cA .int, 40, .inl (fun _ => 0))), (q3, .inl (cA .int, 40, .inl (fun _ => 0))), (q4, .inl (cA .int, 40, .inl (fun _ => 0))), (q5, .inl (cA .int, 40, .inl (fun _ => 0))), (q6, .inl (cA .boolean, 40, .inl (fun _ => 0))), (q7, .inl (cA .int, 40, .inl (fun _ => 0)))] H := hP
  have hD : va_D A [(h0, .inr (4, [.int 0, .ref q0, .ref q1, .int 0, .ref q2, .ref q3, .ref q4, .ref q5, .ref q6, .int 0, .ref q7, .null, .null, .null, .null, .null, .int 0, .int 0, .null, .null, .null, .int 0, .null, .null, .null, .null, .null, .null, .null])), (q0, .inl (cA .int, 10, .inl (fun _ => 0))), (q1, .inl (cA .int, 10, .inl (fun _ => 0))), (q2, .inl (cA .int, 40, .inl (fun _ => 0))), (q3, .inl (cA .int, 40, .inl (fun _ => 0))), (q4, .inl (cA .int, 40, .inl (fun _ => 0))), (q5, .inl (cA .int, 40, .inl (fun _ => 0))), (q6, .inl (cA .boolean, 40, .inl (fun _ => 0))), (q7, .inl (cA .int, 40, .inl (fun _ => 0)))] := hD
  refine lv_aload_n hx hb (show decode prog_6_method_1_code 68 = .ok (.aload_n 0, 1) by decide +kernel) rfl (lv_at hl 0 rfl) ?_
  refine lv_bipush (v := 40) hx hb (show decode prog_6_method_1_code 69 = .ok (.bipush 40, 2) by decide +kernel) (by decide) ?_
  refine gx_na (cA := cA) hx hb (ty := .int) rfl (htb _ gx_aI) rfl (gx_raI hK) hK hP hD hS hA 40 (by decide) (by decide) (by decide) (Nat.le_of_ble_eq_true rfl) (Nat.le_of_ble_eq_true rfl) (show decode prog_6_method_1_code 71 = .ok (.newarray .int, 2) by decide +kernel) (fun q8 H hP hD hS => ?_)
  have hP : va_P D gx_cl [(h0, .inr (4, [.int 0, .ref q0, .ref q1, .int 0, .ref q2, .ref q3, .ref q4, .ref q5, .ref q6, .int 0, .ref q7, .null, .null, .null, .null, .null, .int 0, .int 0, .null, .null, .null, .int 0, .null, .null, .null, .null, .null, .null, .null])), (q0, .inl (cA .int, 10, .inl (fun _ => 0))), (q1, .inl (cA .int, 10, .inl (fun _ => 0))), (q2, .inl (cA .int, 40, .inl (fun _ => 0))), (q3, .inl (cA .int, 40, .inl (fun _ => 0))), (q4, .inl (cA .int, 40, .inl (fun _ => 0))), (q5, .inl (cA .int, 40, .inl (fun _ => 0))), (q6, .inl (cA .boolean, 40, .inl (fun _ => 0))), (q7, .inl (cA .int, 40, .inl (fun _ => 0))), (q8, .inl (cA .int, 40, .inl (fun _ => 0)))] H := hP
  have hD : va_D A [(h0, .inr (4, [.int 0, .ref q0, .ref q1, .int 0, .ref q2, .ref q3, .ref q4, .ref q5, .ref q6, .int 0, .ref q7, .null, .null, .null, .null, .null, .int 0, .int 0, .null, .null, .null, .int 0, .null, .null, .null, .null, .null, .null, .null])), (q0, .inl (cA .int, 10, .inl (fun _ => 0))), (q1, .inl (cA .int, 10, .inl (fun _ => 0))), (q2, .inl (cA .int, 40, .inl (fun _ => 0))), (q3, .inl (cA .int, 40, .inl (fun _ => 0))), (q4, .inl (cA .int, 40, .inl (fun _ => 0))), (q5, .inl (cA .int, 40, .inl (fun _ => 0))), (q6, .inl (cA .boolean, 40, .inl (fun _ => 0))), (q7, .inl (cA .int, 40, .inl (fun _ => 0))), (q8, .inl (cA .int, 40, .inl (fun _ => 0)))] := hD
  refine W.cs (cells' := 9) (slots' := 300) rfl rfl ?_
  refine va_putF (D := D) (ci := 4) (v := .ref q8) (ty := .array .int) (C := gR4) (T := gT4) (N := 29) hx hb htb gx_lay4 gY4 gY4_ok gN4 hown hK hP hD hS 0 rfl rfl 11 (by decide) (htb _ (show Cond.fieldLink gR4 35 "GreatestFlowModel" "high" "[I" ∈ gx_TBL from gx_in2 222 rfl rfl)) (fun _ h9 => h9) rfl hin rfl (by decide +kernel) rfl rfl (Nat.le_of_ble_eq_true rfl) (show decode prog_6_method_1_code 73 = .ok (.putfield 35, 3) by decide +kernel) (fun H locs hP hD hS => ?_)
  have hP : va_P D gx_cl [(h0, .inr (4, [.int 0, .ref q0, .ref q1, .int 0, .ref q2, .ref q3, .ref q4, .ref q5, .ref q6, .int 0, .ref q7, .ref q8, .null, .null, .null, .null, .int 0, .int 0, .null, .null, .null, .int 0, .null, .null, .null, .null, .null, .null, .null])), (q0, .inl (cA .int, 10, .inl (fun _ => 0))), (q1, .inl (cA .int, 10, .inl (fun _ => 0))), (q2, .inl (cA .int, 40, .inl (fun _ => 0))), (q3, .inl (cA .int, 40, .inl (fun _ => 0))), (q4, .inl (cA .int, 40, .inl (fun _ => 0))), (q5, .inl (cA .int, 40, .inl (fun _ => 0))), (q6, .inl (cA .boolean, 40, .inl (fun _ => 0))), (q7, .inl (cA .int, 40, .inl (fun _ => 0))), (q8, .inl (cA .int, 40, .inl (fun _ => 0)))] H := hP
  have hD : va_D A [(h0, .inr (4, [.int 0, .ref q0, .ref q1, .int 0, .ref q2, .ref q3, .ref q4, .ref q5, .ref q6, .int 0, .ref q7, .ref q8, .null, .null, .null, .null, .int 0, .int 0, .null, .null, .null, .int 0, .null, .null, .null, .null, .null, .null, .null])), (q0, .inl (cA .int, 10, .inl (fun _ => 0))), (q1, .inl (cA .int, 10, .inl (fun _ => 0))), (q2, .inl (cA .int, 40, .inl (fun _ => 0))), (q3, .inl (cA .int, 40, .inl (fun _ => 0))), (q4, .inl (cA .int, 40, .inl (fun _ => 0))), (q5, .inl (cA .int, 40, .inl (fun _ => 0))), (q6, .inl (cA .boolean, 40, .inl (fun _ => 0))), (q7, .inl (cA .int, 40, .inl (fun _ => 0))), (q8, .inl (cA .int, 40, .inl (fun _ => 0)))] := hD
  refine lv_aload_n hx hb (show decode prog_6_method_1_code 76 = .ok (.aload_n 0, 1) by decide +kernel) rfl (lv_at hl 0 rfl) ?_
  refine lv_bipush (v := 10) hx hb (show decode prog_6_method_1_code 77 = .ok (.bipush 10, 2) by decide +kernel) (by decide) ?_
  refine gx_na (cA := cA) hx hb (ty := .int) rfl (htb _ gx_aI) rfl (gx_raI hK) hK hP hD hS hA 10 (by decide) (by decide) (by decide) (Nat.le_of_ble_eq_true rfl) (Nat.le_of_ble_eq_true rfl) (show decode prog_6_method_1_code 79 = .ok (.newarray .int, 2) by decide +kernel) (fun q9 H hP hD hS => ?_)
  have hP : va_P D gx_cl [(h0, .inr (4, [.int 0, .ref q0, .ref q1, .int 0, .ref q2, .ref q3, .ref q4, .ref q5, .ref q6, .int 0, .ref q7, .ref q8, .null, .null, .null, .null, .int 0, .int 0, .null, .null, .null, .int 0, .null, .null, .null, .null, .null, .null, .null])), (q0, .inl (cA .int, 10, .inl (fun _ => 0))), (q1, .inl (cA .int, 10, .inl (fun _ => 0))), (q2, .inl (cA .int, 40, .inl (fun _ => 0))), (q3, .inl (cA .int, 40, .inl (fun _ => 0))), (q4, .inl (cA .int, 40, .inl (fun _ => 0))), (q5, .inl (cA .int, 40, .inl (fun _ => 0))), (q6, .inl (cA .boolean, 40, .inl (fun _ => 0))), (q7, .inl (cA .int, 40, .inl (fun _ => 0))), (q8, .inl (cA .int, 40, .inl (fun _ => 0))), (q9, .inl (cA .int, 10, .inl (fun _ => 0)))] H := hP
  have hD : va_D A [(h0, .inr (4, [.int 0, .ref q0, .ref q1, .int 0, .ref q2, .ref q3, .ref q4, .ref q5, .ref q6, .int 0, .ref q7, .ref q8, .null, .null, .null, .null, .int 0, .int 0, .null, .null, .null, .int 0, .null, .null, .null, .null, .null, .null, .null])), (q0, .inl (cA .int, 10, .inl (fun _ => 0))), (q1, .inl (cA .int, 10, .inl (fun _ => 0))), (q2, .inl (cA .int, 40, .inl (fun _ => 0))), (q3, .inl (cA .int, 40, .inl (fun _ => 0))), (q4, .inl (cA .int, 40, .inl (fun _ => 0))), (q5, .inl (cA .int, 40, .inl (fun _ => 0))), (q6, .inl (cA .boolean, 40, .inl (fun _ => 0))), (q7, .inl (cA .int, 40, .inl (fun _ => 0))), (q8, .inl (cA .int, 40, .inl (fun _ => 0))), (q9, .inl (cA .int, 10, .inl (fun _ => 0)))] := hD
  refine W.cs (cells' := 10) (slots' := 310) rfl rfl ?_
  refine va_putF (D := D) (ci := 4) (v := .ref q9) (ty := .array .int) (C := gR4) (T := gT4) (N := 29) hx hb htb gx_lay4 gY4 gY4_ok gN4 hown hK hP hD hS 0 rfl rfl 12 (by decide) (htb _ (show Cond.fieldLink gR4 38 "GreatestFlowModel" "kind" "[I" ∈ gx_TBL from gx_in2 223 rfl rfl)) (fun _ h9 => h9) rfl hin rfl (by decide +kernel) rfl rfl (Nat.le_of_ble_eq_true rfl) (show decode prog_6_method_1_code 81 = .ok (.putfield 38, 3) by decide +kernel) (fun H locs hP hD hS => ?_)
  have hP : va_P D gx_cl [(h0, .inr (4, [.int 0, .ref q0, .ref q1, .int 0, .ref q2, .ref q3, .ref q4, .ref q5, .ref q6, .int 0, .ref q7, .ref q8, .ref q9, .null, .null, .null, .int 0, .int 0, .null, .null, .null, .int 0, .null, .null, .null, .null, .null, .null, .null])), (q0, .inl (cA .int, 10, .inl (fun _ => 0))), (q1, .inl (cA .int, 10, .inl (fun _ => 0))), (q2, .inl (cA .int, 40, .inl (fun _ => 0))), (q3, .inl (cA .int, 40, .inl (fun _ => 0))), (q4, .inl (cA .int, 40, .inl (fun _ => 0))), (q5, .inl (cA .int, 40, .inl (fun _ => 0))), (q6, .inl (cA .boolean, 40, .inl (fun _ => 0))), (q7, .inl (cA .int, 40, .inl (fun _ => 0))), (q8, .inl (cA .int, 40, .inl (fun _ => 0))), (q9, .inl (cA .int, 10, .inl (fun _ => 0)))] H := hP
  have hD : va_D A [(h0, .inr (4, [.int 0, .ref q0, .ref q1, .int 0, .ref q2, .ref q3, .ref q4, .ref q5, .ref q6, .int 0, .ref q7, .ref q8, .ref q9, .null, .null, .null, .int 0, .int 0, .null, .null, .null, .int 0, .null, .null, .null, .null, .null, .null, .null])), (q0, .inl (cA .int, 10, .inl (fun _ => 0))), (q1, .inl (cA .int, 10, .inl (fun _ => 0))), (q2, .inl (cA .int, 40, .inl (fun _ => 0))), (q3, .inl (cA .int, 40, .inl (fun _ => 0))), (q4, .inl (cA .int, 40, .inl (fun _ => 0))), (q5, .inl (cA .int, 40, .inl (fun _ => 0))), (q6, .inl (cA .boolean, 40, .inl (fun _ => 0))), (q7, .inl (cA .int, 40, .inl (fun _ => 0))), (q8, .inl (cA .int, 40, .inl (fun _ => 0))), (q9, .inl (cA .int, 10, .inl (fun _ => 0)))] := hD
  refine lv_aload_n hx hb (show decode prog_6_method_1_code 84 = .ok (.aload_n 0, 1) by decide +kernel) rfl (lv_at hl 0 rfl) ?_
  refine lv_sipush (v := 576) hx hb (show decode prog_6_method_1_code 85 = .ok (.sipush 576, 3) by decide +kernel) (by decide) ?_
  refine gx_na (cA := cA) hx hb (ty := .int) rfl (htb _ gx_aI) rfl (gx_raI hK) hK hP hD hS hA 576 (by decide) (by decide) (by decide) (Nat.le_of_ble_eq_true rfl) (Nat.le_of_ble_eq_true rfl) (show decode prog_6_method_1_code 88 = .ok (.newarray .int, 2) by decide +kernel) (fun q10 H hP hD hS => ?_)
  have hP : va_P D gx_cl [(h0, .inr (4, [.int 0, .ref q0, .ref q1, .int 0, .ref q2, .ref q3, .ref q4, .ref q5, .ref q6, .int 0, .ref q7, .ref q8, .ref q9, .null, .null, .null, .int 0, .int 0, .null, .null, .null, .int 0, .null, .null, .null, .null, .null, .null, .null])), (q0, .inl (cA .int, 10, .inl (fun _ => 0))), (q1, .inl (cA .int, 10, .inl (fun _ => 0))), (q2, .inl (cA .int, 40, .inl (fun _ => 0))), (q3, .inl (cA .int, 40, .inl (fun _ => 0))), (q4, .inl (cA .int, 40, .inl (fun _ => 0))), (q5, .inl (cA .int, 40, .inl (fun _ => 0))), (q6, .inl (cA .boolean, 40, .inl (fun _ => 0))), (q7, .inl (cA .int, 40, .inl (fun _ => 0))), (q8, .inl (cA .int, 40, .inl (fun _ => 0))), (q9, .inl (cA .int, 10, .inl (fun _ => 0))), (q10, .inl (cA .int, 576, .inl (fun _ => 0)))] H := hP
  have hD : va_D A [(h0, .inr (4, [.int 0, .ref q0, .ref q1, .int 0, .ref q2, .ref q3, .ref q4, .ref q5, .ref q6, .int 0, .ref q7, .ref q8, .ref q9, .null, .null, .null, .int 0, .int 0, .null, .null, .null, .int 0, .null, .null, .null, .null, .null, .null, .null])), (q0, .inl (cA .int, 10, .inl (fun _ => 0))), (q1, .inl (cA .int, 10, .inl (fun _ => 0))), (q2, .inl (cA .int, 40, .inl (fun _ => 0))), (q3, .inl (cA .int, 40, .inl (fun _ => 0))), (q4, .inl (cA .int, 40, .inl (fun _ => 0))), (q5, .inl (cA .int, 40, .inl (fun _ => 0))), (q6, .inl (cA .boolean, 40, .inl (fun _ => 0))), (q7, .inl (cA .int, 40, .inl (fun _ => 0))), (q8, .inl (cA .int, 40, .inl (fun _ => 0))), (q9, .inl (cA .int, 10, .inl (fun _ => 0))), (q10, .inl (cA .int, 576, .inl (fun _ => 0)))] := hD
  refine W.cs (cells' := 11) (slots' := 886) rfl rfl ?_
  refine va_putF (D := D) (ci := 4) (v := .ref q10) (ty := .array .int) (C := gR4) (T := gT4) (N := 29) hx hb htb gx_lay4 gY4 gY4_ok gN4 hown hK hP hD hS 0 rfl rfl 13 (by decide) (htb _ (show Cond.fieldLink gR4 41 "GreatestFlowModel" "left" "[I" ∈ gx_TBL from gx_in2 224 rfl rfl)) (fun _ h9 => h9) rfl hin rfl (by decide +kernel) rfl rfl (Nat.le_of_ble_eq_true rfl) (show decode prog_6_method_1_code 90 = .ok (.putfield 41, 3) by decide +kernel) (fun H locs hP hD hS => ?_)
  have hP : va_P D gx_cl [(h0, .inr (4, [.int 0, .ref q0, .ref q1, .int 0, .ref q2, .ref q3, .ref q4, .ref q5, .ref q6, .int 0, .ref q7, .ref q8, .ref q9, .ref q10, .null, .null, .int 0, .int 0, .null, .null, .null, .int 0, .null, .null, .null, .null, .null, .null, .null])), (q0, .inl (cA .int, 10, .inl (fun _ => 0))), (q1, .inl (cA .int, 10, .inl (fun _ => 0))), (q2, .inl (cA .int, 40, .inl (fun _ => 0))), (q3, .inl (cA .int, 40, .inl (fun _ => 0))), (q4, .inl (cA .int, 40, .inl (fun _ => 0))), (q5, .inl (cA .int, 40, .inl (fun _ => 0))), (q6, .inl (cA .boolean, 40, .inl (fun _ => 0))), (q7, .inl (cA .int, 40, .inl (fun _ => 0))), (q8, .inl (cA .int, 40, .inl (fun _ => 0))), (q9, .inl (cA .int, 10, .inl (fun _ => 0))), (q10, .inl (cA .int, 576, .inl (fun _ => 0)))] H := hP
  have hD : va_D A [(h0, .inr (4, [.int 0, .ref q0, .ref q1, .int 0, .ref q2, .ref q3, .ref q4, .ref q5, .ref q6, .int 0, .ref q7, .ref q8, .ref q9, .ref q10, .null, .null, .int 0, .int 0, .null, .null, .null, .int 0, .null, .null, .null, .null, .null, .null, .null])), (q0, .inl (cA .int, 10, .inl (fun _ => 0))), (q1, .inl (cA .int, 10, .inl (fun _ => 0))), (q2, .inl (cA .int, 40, .inl (fun _ => 0))), (q3, .inl (cA .int, 40, .inl (fun _ => 0))), (q4, .inl (cA .int, 40, .inl (fun _ => 0))), (q5, .inl (cA .int, 40, .inl (fun _ => 0))), (q6, .inl (cA .boolean, 40, .inl (fun _ => 0))), (q7, .inl (cA .int, 40, .inl (fun _ => 0))), (q8, .inl (cA .int, 40, .inl (fun _ => 0))), (q9, .inl (cA .int, 10, .inl (fun _ => 0))), (q10, .inl (cA .int, 576, .inl (fun _ => 0)))] := hD
  refine lv_aload_n hx hb (show decode prog_6_method_1_code 93 = .ok (.aload_n 0, 1) by decide +kernel) rfl (lv_at hl 0 rfl) ?_
  refine lv_bipush (v := 24) hx hb (show decode prog_6_method_1_code 94 = .ok (.bipush 24, 2) by decide +kernel) (by decide) ?_
  refine gx_na (cA := cA) hx hb (ty := .int) rfl (htb _ gx_aI) rfl (gx_raI hK) hK hP hD hS hA 24 (by decide) (by decide) (by decide) (Nat.le_of_ble_eq_true rfl) (Nat.le_of_ble_eq_true rfl) (show decode prog_6_method_1_code 96 = .ok (.newarray .int, 2) by decide +kernel) (fun q11 H hP hD hS => ?_)
  have hP : va_P D gx_cl [(h0, .inr (4, [.int 0, .ref q0, .ref q1, .int 0, .ref q2, .ref q3, .ref q4, .ref q5, .ref q6, .int 0, .ref q7, .ref q8, .ref q9, .ref q10, .null, .null, .int 0, .int 0, .null, .null, .null, .int 0, .null, .null, .null, .null, .null, .null, .null])), (q0, .inl (cA .int, 10, .inl (fun _ => 0))), (q1, .inl (cA .int, 10, .inl (fun _ => 0))), (q2, .inl (cA .int, 40, .inl (fun _ => 0))), (q3, .inl (cA .int, 40, .inl (fun _ => 0))), (q4, .inl (cA .int, 40, .inl (fun _ => 0))), (q5, .inl (cA .int, 40, .inl (fun _ => 0))), (q6, .inl (cA .boolean, 40, .inl (fun _ => 0))), (q7, .inl (cA .int, 40, .inl (fun _ => 0))), (q8, .inl (cA .int, 40, .inl (fun _ => 0))), (q9, .inl (cA .int, 10, .inl (fun _ => 0))), (q10, .inl (cA .int, 576, .inl (fun _ => 0))), (q11, .inl (cA .int, 24, .inl (fun _ => 0)))] H := hP
  have hD : va_D A [(h0, .inr (4, [.int 0, .ref q0, .ref q1, .int 0, .ref q2, .ref q3, .ref q4, .ref q5, .ref q6, .int 0, .ref q7, .ref q8, .ref q9, .ref q10, .null, .null, .int 0, .int 0, .null, .null, .null, .int 0, .null, .null, .null, .null, .null, .null, .null])), (q0, .inl (cA .int, 10, .inl (fun _ => 0))), (q1, .inl (cA .int, 10, .inl (fun _ => 0))), (q2, .inl (cA .int, 40, .inl (fun _ => 0))), (q3, .inl (cA .int, 40, .inl (fun _ => 0))), (q4, .inl (cA .int, 40, .inl (fun _ => 0))), (q5, .inl (cA .int, 40, .inl (fun _ => 0))), (q6, .inl (cA .boolean, 40, .inl (fun _ => 0))), (q7, .inl (cA .int, 40, .inl (fun _ => 0))), (q8, .inl (cA .int, 40, .inl (fun _ => 0))), (q9, .inl (cA .int, 10, .inl (fun _ => 0))), (q10, .inl (cA .int, 576, .inl (fun _ => 0))), (q11, .inl (cA .int, 24, .inl (fun _ => 0)))] := hD
  refine W.cs (cells' := 12) (slots' := 910) rfl rfl ?_
  refine va_putF (D := D) (ci := 4) (v := .ref q11) (ty := .array .int) (C := gR4) (T := gT4) (N := 29) hx hb htb gx_lay4 gY4 gY4_ok gN4 hown hK hP hD hS 0 rfl rfl 14 (by decide) (htb _ (show Cond.fieldLink gR4 44 "GreatestFlowModel" "before" "[I" ∈ gx_TBL from gx_in2 225 rfl rfl)) (fun _ h9 => h9) rfl hin rfl (by decide +kernel) rfl rfl (Nat.le_of_ble_eq_true rfl) (show decode prog_6_method_1_code 98 = .ok (.putfield 44, 3) by decide +kernel) (fun H locs hP hD hS => ?_)
  have hP : va_P D gx_cl [(h0, .inr (4, [.int 0, .ref q0, .ref q1, .int 0, .ref q2, .ref q3, .ref q4, .ref q5, .ref q6, .int 0, .ref q7, .ref q8, .ref q9, .ref q10, .ref q11, .null, .int 0, .int 0, .null, .null, .null, .int 0, .null, .null, .null, .null, .null, .null, .null])), (q0, .inl (cA .int, 10, .inl (fun _ => 0))), (q1, .inl (cA .int, 10, .inl (fun _ => 0))), (q2, .inl (cA .int, 40, .inl (fun _ => 0))), (q3, .inl (cA .int, 40, .inl (fun _ => 0))), (q4, .inl (cA .int, 40, .inl (fun _ => 0))), (q5, .inl (cA .int, 40, .inl (fun _ => 0))), (q6, .inl (cA .boolean, 40, .inl (fun _ => 0))), (q7, .inl (cA .int, 40, .inl (fun _ => 0))), (q8, .inl (cA .int, 40, .inl (fun _ => 0))), (q9, .inl (cA .int, 10, .inl (fun _ => 0))), (q10, .inl (cA .int, 576, .inl (fun _ => 0))), (q11, .inl (cA .int, 24, .inl (fun _ => 0)))] H := hP
  have hD : va_D A [(h0, .inr (4, [.int 0, .ref q0, .ref q1, .int 0, .ref q2, .ref q3, .ref q4, .ref q5, .ref q6, .int 0, .ref q7, .ref q8, .ref q9, .ref q10, .ref q11, .null, .int 0, .int 0, .null, .null, .null, .int 0, .null, .null, .null, .null, .null, .null, .null])), (q0, .inl (cA .int, 10, .inl (fun _ => 0))), (q1, .inl (cA .int, 10, .inl (fun _ => 0))), (q2, .inl (cA .int, 40, .inl (fun _ => 0))), (q3, .inl (cA .int, 40, .inl (fun _ => 0))), (q4, .inl (cA .int, 40, .inl (fun _ => 0))), (q5, .inl (cA .int, 40, .inl (fun _ => 0))), (q6, .inl (cA .boolean, 40, .inl (fun _ => 0))), (q7, .inl (cA .int, 40, .inl (fun _ => 0))), (q8, .inl (cA .int, 40, .inl (fun _ => 0))), (q9, .inl (cA .int, 10, .inl (fun _ => 0))), (q10, .inl (cA .int, 576, .inl (fun _ => 0))), (q11, .inl (cA .int, 24, .inl (fun _ => 0)))] := hD
  refine lv_aload_n hx hb (show decode prog_6_method_1_code 101 = .ok (.aload_n 0, 1) by decide +kernel) rfl (lv_at hl 0 rfl) ?_
  refine lv_bipush (v := 24) hx hb (show decode prog_6_method_1_code 102 = .ok (.bipush 24, 2) by decide +kernel) (by decide) ?_
  refine gx_na (cA := cA) hx hb (ty := .int) rfl (htb _ gx_aI) rfl (gx_raI hK) hK hP hD hS hA 24 (by decide) (by decide) (by decide) (Nat.le_of_ble_eq_true rfl) (Nat.le_of_ble_eq_true rfl) (show decode prog_6_method_1_code 104 = .ok (.newarray .int, 2) by decide +kernel) (fun q12 H hP hD hS => ?_)
  have hP : va_P D gx_cl [(h0, .inr (4, [.int 0, .ref q0, .ref q1, .int 0, .ref q2, .ref q3, .ref q4, .ref q5, .ref q6, .int 0, .ref q7, .ref q8, .ref q9, .ref q10, .ref q11, .null, .int 0, .int 0, .null, .null, .null, .int 0, .null, .null, .null, .null, .null, .null, .null])), (q0, .inl (cA .int, 10, .inl (fun _ => 0))), (q1, .inl (cA .int, 10, .inl (fun _ => 0))), (q2, .inl (cA .int, 40, .inl (fun _ => 0))), (q3, .inl (cA .int, 40, .inl (fun _ => 0))), (q4, .inl (cA .int, 40, .inl (fun _ => 0))), (q5, .inl (cA .int, 40, .inl (fun _ => 0))), (q6, .inl (cA .boolean, 40, .inl (fun _ => 0))), (q7, .inl (cA .int, 40, .inl (fun _ => 0))), (q8, .inl (cA .int, 40, .inl (fun _ => 0))), (q9, .inl (cA .int, 10, .inl (fun _ => 0))), (q10, .inl (cA .int, 576, .inl (fun _ => 0))), (q11, .inl (cA .int, 24, .inl (fun _ => 0))), (q12, .inl (cA .int, 24, .inl (fun _ => 0)))] H := hP
  have hD : va_D A [(h0, .inr (4, [.int 0, .ref q0, .ref q1, .int 0, .ref q2, .ref q3, .ref q4, .ref q5, .ref q6, .int 0, .ref q7, .ref q8, .ref q9, .ref q10, .ref q11, .null, .int 0, .int 0, .null, .null, .null, .int 0, .null, .null, .null, .null, .null, .null, .null])), (q0, .inl (cA .int, 10, .inl (fun _ => 0))), (q1, .inl (cA .int, 10, .inl (fun _ => 0))), (q2, .inl (cA .int, 40, .inl (fun _ => 0))), (q3, .inl (cA .int, 40, .inl (fun _ => 0))), (q4, .inl (cA .int, 40, .inl (fun _ => 0))), (q5, .inl (cA .int, 40, .inl (fun _ => 0))), (q6, .inl (cA .boolean, 40, .inl (fun _ => 0))), (q7, .inl (cA .int, 40, .inl (fun _ => 0))), (q8, .inl (cA .int, 40, .inl (fun _ => 0))), (q9, .inl (cA .int, 10, .inl (fun _ => 0))), (q10, .inl (cA .int, 576, .inl (fun _ => 0))), (q11, .inl (cA .int, 24, .inl (fun _ => 0))), (q12, .inl (cA .int, 24, .inl (fun _ => 0)))] := hD
  refine W.cs (cells' := 13) (slots' := 934) rfl rfl ?_
  refine va_putF (D := D) (ci := 4) (v := .ref q12) (ty := .array .int) (C := gR4) (T := gT4) (N := 29) hx hb htb gx_lay4 gY4 gY4_ok gN4 hown hK hP hD hS 0 rfl rfl 15 (by decide) (htb _ (show Cond.fieldLink gR4 47 "GreatestFlowModel" "queue" "[I" ∈ gx_TBL from gx_in2 226 rfl rfl)) (fun _ h9 => h9) rfl hin rfl (by decide +kernel) rfl rfl (Nat.le_of_ble_eq_true rfl) (show decode prog_6_method_1_code 106 = .ok (.putfield 47, 3) by decide +kernel) (fun H locs hP hD hS => ?_)
  have hP : va_P D gx_cl [(h0, .inr (4, [.int 0, .ref q0, .ref q1, .int 0, .ref q2, .ref q3, .ref q4, .ref q5, .ref q6, .int 0, .ref q7, .ref q8, .ref q9, .ref q10, .ref q11, .ref q12, .int 0, .int 0, .null, .null, .null, .int 0, .null, .null, .null, .null, .null, .null, .null])), (q0, .inl (cA .int, 10, .inl (fun _ => 0))), (q1, .inl (cA .int, 10, .inl (fun _ => 0))), (q2, .inl (cA .int, 40, .inl (fun _ => 0))), (q3, .inl (cA .int, 40, .inl (fun _ => 0))), (q4, .inl (cA .int, 40, .inl (fun _ => 0))), (q5, .inl (cA .int, 40, .inl (fun _ => 0))), (q6, .inl (cA .boolean, 40, .inl (fun _ => 0))), (q7, .inl (cA .int, 40, .inl (fun _ => 0))), (q8, .inl (cA .int, 40, .inl (fun _ => 0))), (q9, .inl (cA .int, 10, .inl (fun _ => 0))), (q10, .inl (cA .int, 576, .inl (fun _ => 0))), (q11, .inl (cA .int, 24, .inl (fun _ => 0))), (q12, .inl (cA .int, 24, .inl (fun _ => 0)))] H := hP
  have hD : va_D A [(h0, .inr (4, [.int 0, .ref q0, .ref q1, .int 0, .ref q2, .ref q3, .ref q4, .ref q5, .ref q6, .int 0, .ref q7, .ref q8, .ref q9, .ref q10, .ref q11, .ref q12, .int 0, .int 0, .null, .null, .null, .int 0, .null, .null, .null, .null, .null, .null, .null])), (q0, .inl (cA .int, 10, .inl (fun _ => 0))), (q1, .inl (cA .int, 10, .inl (fun _ => 0))), (q2, .inl (cA .int, 40, .inl (fun _ => 0))), (q3, .inl (cA .int, 40, .inl (fun _ => 0))), (q4, .inl (cA .int, 40, .inl (fun _ => 0))), (q5, .inl (cA .int, 40, .inl (fun _ => 0))), (q6, .inl (cA .boolean, 40, .inl (fun _ => 0))), (q7, .inl (cA .int, 40, .inl (fun _ => 0))), (q8, .inl (cA .int, 40, .inl (fun _ => 0))), (q9, .inl (cA .int, 10, .inl (fun _ => 0))), (q10, .inl (cA .int, 576, .inl (fun _ => 0))), (q11, .inl (cA .int, 24, .inl (fun _ => 0))), (q12, .inl (cA .int, 24, .inl (fun _ => 0)))] := hD
  refine lv_aload_n hx hb (show decode prog_6_method_1_code 109 = .ok (.aload_n 0, 1) by decide +kernel) rfl (lv_at hl 0 rfl) ?_
  refine lv_iconst (v := 2) hx hb (show decode prog_6_method_1_code 110 = .ok (.iconst 2, 1) by decide +kernel) (by decide) ?_
  refine gx_na (cA := cA) hx hb (ty := .int) rfl (htb _ gx_aI) rfl (gx_raI hK) hK hP hD hS hA 2 (by decide) (by decide) (by decide) (Nat.le_of_ble_eq_true rfl) (Nat.le_of_ble_eq_true rfl) (show decode prog_6_method_1_code 111 = .ok (.newarray .int, 2) by decide +kernel) (fun q13 H hP hD hS => ?_)
  have hP : va_P D gx_cl [(h0, .inr (4, [.int 0, .ref q0, .ref q1, .int 0, .ref q2, .ref q3, .ref q4, .ref q5, .ref q6, .int 0, .ref q7, .ref q8, .ref q9, .ref q10, .ref q11, .ref q12, .int 0, .int 0, .null, .null, .null, .int 0, .null, .null, .null, .null, .null, .null, .null])), (q0, .inl (cA .int, 10, .inl (fun _ => 0))), (q1, .inl (cA .int, 10, .inl (fun _ => 0))), (q2, .inl (cA .int, 40, .inl (fun _ => 0))), (q3, .inl (cA .int, 40, .inl (fun _ => 0))), (q4, .inl (cA .int, 40, .inl (fun _ => 0))), (q5, .inl (cA .int, 40, .inl (fun _ => 0))), (q6, .inl (cA .boolean, 40, .inl (fun _ => 0))), (q7, .inl (cA .int, 40, .inl (fun _ => 0))), (q8, .inl (cA .int, 40, .inl (fun _ => 0))), (q9, .inl (cA .int, 10, .inl (fun _ => 0))), (q10, .inl (cA .int, 576, .inl (fun _ => 0))), (q11, .inl (cA .int, 24, .inl (fun _ => 0))), (q12, .inl (cA .int, 24, .inl (fun _ => 0))), (q13, .inl (cA .int, 2, .inl (fun _ => 0)))] H := hP
  have hD : va_D A [(h0, .inr (4, [.int 0, .ref q0, .ref q1, .int 0, .ref q2, .ref q3, .ref q4, .ref q5, .ref q6, .int 0, .ref q7, .ref q8, .ref q9, .ref q10, .ref q11, .ref q12, .int 0, .int 0, .null, .null, .null, .int 0, .null, .null, .null, .null, .null, .null, .null])), (q0, .inl (cA .int, 10, .inl (fun _ => 0))), (q1, .inl (cA .int, 10, .inl (fun _ => 0))), (q2, .inl (cA .int, 40, .inl (fun _ => 0))), (q3, .inl (cA .int, 40, .inl (fun _ => 0))), (q4, .inl (cA .int, 40, .inl (fun _ => 0))), (q5, .inl (cA .int, 40, .inl (fun _ => 0))), (q6, .inl (cA .boolean, 40, .inl (fun _ => 0))), (q7, .inl (cA .int, 40, .inl (fun _ => 0))), (q8, .inl (cA .int, 40, .inl (fun _ => 0))), (q9, .inl (cA .int, 10, .inl (fun _ => 0))), (q10, .inl (cA .int, 576, .inl (fun _ => 0))), (q11, .inl (cA .int, 24, .inl (fun _ => 0))), (q12, .inl (cA .int, 24, .inl (fun _ => 0))), (q13, .inl (cA .int, 2, .inl (fun _ => 0)))] := hD
  refine W.cs (cells' := 14) (slots' := 936) rfl rfl ?_
  refine va_putF (D := D) (ci := 4) (v := .ref q13) (ty := .array .int) (C := gR4) (T := gT4) (N := 29) hx hb htb gx_lay4 gY4 gY4_ok gN4 hown hK hP hD hS 0 rfl rfl 18 (by decide) (htb _ (show Cond.fieldLink gR4 50 "GreatestFlowModel" "values" "[I" ∈ gx_TBL from gx_in2 229 rfl rfl)) (fun _ h9 => h9) rfl hin rfl (by decide +kernel) rfl rfl (Nat.le_of_ble_eq_true rfl) (show decode prog_6_method_1_code 113 = .ok (.putfield 50, 3) by decide +kernel) (fun H locs hP hD hS => ?_)
  have hP : va_P D gx_cl [(h0, .inr (4, [.int 0, .ref q0, .ref q1, .int 0, .ref q2, .ref q3, .ref q4, .ref q5, .ref q6, .int 0, .ref q7, .ref q8, .ref q9, .ref q10, .ref q11, .ref q12, .int 0, .int 0, .ref q13, .null, .null, .int 0, .null, .null, .null, .null, .null, .null, .null])), (q0, .inl (cA .int, 10, .inl (fun _ => 0))), (q1, .inl (cA .int, 10, .inl (fun _ => 0))), (q2, .inl (cA .int, 40, .inl (fun _ => 0))), (q3, .inl (cA .int, 40, .inl (fun _ => 0))), (q4, .inl (cA .int, 40, .inl (fun _ => 0))), (q5, .inl (cA .int, 40, .inl (fun _ => 0))), (q6, .inl (cA .boolean, 40, .inl (fun _ => 0))), (q7, .inl (cA .int, 40, .inl (fun _ => 0))), (q8, .inl (cA .int, 40, .inl (fun _ => 0))), (q9, .inl (cA .int, 10, .inl (fun _ => 0))), (q10, .inl (cA .int, 576, .inl (fun _ => 0))), (q11, .inl (cA .int, 24, .inl (fun _ => 0))), (q12, .inl (cA .int, 24, .inl (fun _ => 0))), (q13, .inl (cA .int, 2, .inl (fun _ => 0)))] H := hP
  have hD : va_D A [(h0, .inr (4, [.int 0, .ref q0, .ref q1, .int 0, .ref q2, .ref q3, .ref q4, .ref q5, .ref q6, .int 0, .ref q7, .ref q8, .ref q9, .ref q10, .ref q11, .ref q12, .int 0, .int 0, .ref q13, .null, .null, .int 0, .null, .null, .null, .null, .null, .null, .null])), (q0, .inl (cA .int, 10, .inl (fun _ => 0))), (q1, .inl (cA .int, 10, .inl (fun _ => 0))), (q2, .inl (cA .int, 40, .inl (fun _ => 0))), (q3, .inl (cA .int, 40, .inl (fun _ => 0))), (q4, .inl (cA .int, 40, .inl (fun _ => 0))), (q5, .inl (cA .int, 40, .inl (fun _ => 0))), (q6, .inl (cA .boolean, 40, .inl (fun _ => 0))), (q7, .inl (cA .int, 40, .inl (fun _ => 0))), (q8, .inl (cA .int, 40, .inl (fun _ => 0))), (q9, .inl (cA .int, 10, .inl (fun _ => 0))), (q10, .inl (cA .int, 576, .inl (fun _ => 0))), (q11, .inl (cA .int, 24, .inl (fun _ => 0))), (q12, .inl (cA .int, 24, .inl (fun _ => 0))), (q13, .inl (cA .int, 2, .inl (fun _ => 0)))] := hD
  refine lv_aload_n hx hb (show decode prog_6_method_1_code 116 = .ok (.aload_n 0, 1) by decide +kernel) rfl (lv_at hl 0 rfl) ?_
  refine lv_bipush (v := 80) hx hb (show decode prog_6_method_1_code 117 = .ok (.bipush 80, 2) by decide +kernel) (by decide) ?_
  refine gx_na (cA := cA) hx hb (ty := .int) rfl (htb _ gx_aI) rfl (gx_raI hK) hK hP hD hS hA 80 (by decide) (by decide) (by decide) (Nat.le_of_ble_eq_true rfl) (Nat.le_of_ble_eq_true rfl) (show decode prog_6_method_1_code 119 = .ok (.newarray .int, 2) by decide +kernel) (fun q14 H hP hD hS => ?_)
  have hP : va_P D gx_cl [(h0, .inr (4, [.int 0, .ref q0, .ref q1, .int 0, .ref q2, .ref q3, .ref q4, .ref q5, .ref q6, .int 0, .ref q7, .ref q8, .ref q9, .ref q10, .ref q11, .ref q12, .int 0, .int 0, .ref q13, .null, .null, .int 0, .null, .null, .null, .null, .null, .null, .null])), (q0, .inl (cA .int, 10, .inl (fun _ => 0))), (q1, .inl (cA .int, 10, .inl (fun _ => 0))), (q2, .inl (cA .int, 40, .inl (fun _ => 0))), (q3, .inl (cA .int, 40, .inl (fun _ => 0))), (q4, .inl (cA .int, 40, .inl (fun _ => 0))), (q5, .inl (cA .int, 40, .inl (fun _ => 0))), (q6, .inl (cA .boolean, 40, .inl (fun _ => 0))), (q7, .inl (cA .int, 40, .inl (fun _ => 0))), (q8, .inl (cA .int, 40, .inl (fun _ => 0))), (q9, .inl (cA .int, 10, .inl (fun _ => 0))), (q10, .inl (cA .int, 576, .inl (fun _ => 0))), (q11, .inl (cA .int, 24, .inl (fun _ => 0))), (q12, .inl (cA .int, 24, .inl (fun _ => 0))), (q13, .inl (cA .int, 2, .inl (fun _ => 0))), (q14, .inl (cA .int, 80, .inl (fun _ => 0)))] H := hP
  have hD : va_D A [(h0, .inr (4, [.int 0, .ref q0, .ref q1, .int 0, .ref q2, .ref q3, .ref q4, .ref q5, .ref q6, .int 0, .ref q7, .ref q8, .ref q9, .ref q10, .ref q11, .ref q12, .int 0, .int 0, .ref q13, .null, .null, .int 0, .null, .null, .null, .null, .null, .null, .null])), (q0, .inl (cA .int, 10, .inl (fun _ => 0))), (q1, .inl (cA .int, 10, .inl (fun _ => 0))), (q2, .inl (cA .int, 40, .inl (fun _ => 0))), (q3, .inl (cA .int, 40, .inl (fun _ => 0))), (q4, .inl (cA .int, 40, .inl (fun _ => 0))), (q5, .inl (cA .int, 40, .inl (fun _ => 0))), (q6, .inl (cA .boolean, 40, .inl (fun _ => 0))), (q7, .inl (cA .int, 40, .inl (fun _ => 0))), (q8, .inl (cA .int, 40, .inl (fun _ => 0))), (q9, .inl (cA .int, 10, .inl (fun _ => 0))), (q10, .inl (cA .int, 576, .inl (fun _ => 0))), (q11, .inl (cA .int, 24, .inl (fun _ => 0))), (q12, .inl (cA .int, 24, .inl (fun _ => 0))), (q13, .inl (cA .int, 2, .inl (fun _ => 0))), (q14, .inl (cA .int, 80, .inl (fun _ => 0)))] := hD
  refine W.cs (cells' := 15) (slots' := 1016) rfl rfl ?_
  refine va_putF (D := D) (ci := 4) (v := .ref q14) (ty := .array .int) (C := gR4) (T := gT4) (N := 29) hx hb htb gx_lay4 gY4 gY4_ok gN4 hown hK hP hD hS 0 rfl rfl 19 (by decide) (htb _ (show Cond.fieldLink gR4 53 "GreatestFlowModel" "flows" "[I" ∈ gx_TBL from gx_in2 230 rfl rfl)) (fun _ h9 => h9) rfl hin rfl (by decide +kernel) rfl rfl (Nat.le_of_ble_eq_true rfl) (show decode prog_6_method_1_code 121 = .ok (.putfield 53, 3) by decide +kernel) (fun H locs hP hD hS => ?_)
  have hP : va_P D gx_cl [(h0, .inr (4, [.int 0, .ref q0, .ref q1, .int 0, .ref q2, .ref q3, .ref q4, .ref q5, .ref q6, .int 0, .ref q7, .ref q8, .ref q9, .ref q10, .ref q11, .ref q12, .int 0, .int 0, .ref q13, .ref q14, .null, .int 0, .null, .null, .null, .null, .null, .null, .null])), (q0, .inl (cA .int, 10, .inl (fun _ => 0))), (q1, .inl (cA .int, 10, .inl (fun _ => 0))), (q2, .inl (cA .int, 40, .inl (fun _ => 0))), (q3, .inl (cA .int, 40, .inl (fun _ => 0))), (q4, .inl (cA .int, 40, .inl (fun _ => 0))), (q5, .inl (cA .int, 40, .inl (fun _ => 0))), (q6, .inl (cA .boolean, 40, .inl (fun _ => 0))), (q7, .inl (cA .int, 40, .inl (fun _ => 0))), (q8, .inl (cA .int, 40, .inl (fun _ => 0))), (q9, .inl (cA .int, 10, .inl (fun _ => 0))), (q10, .inl (cA .int, 576, .inl (fun _ => 0))), (q11, .inl (cA .int, 24, .inl (fun _ => 0))), (q12, .inl (cA .int, 24, .inl (fun _ => 0))), (q13, .inl (cA .int, 2, .inl (fun _ => 0))), (q14, .inl (cA .int, 80, .inl (fun _ => 0)))] H := hP
  have hD : va_D A [(h0, .inr (4, [.int 0, .ref q0, .ref q1, .int 0, .ref q2, .ref q3, .ref q4, .ref q5, .ref q6, .int 0, .ref q7, .ref q8, .ref q9, .ref q10, .ref q11, .ref q12, .int 0, .int 0, .ref q13, .ref q14, .null, .int 0, .null, .null, .null, .null, .null, .null, .null])), (q0, .inl (cA .int, 10, .inl (fun _ => 0))), (q1, .inl (cA .int, 10, .inl (fun _ => 0))), (q2, .inl (cA .int, 40, .inl (fun _ => 0))), (q3, .inl (cA .int, 40, .inl (fun _ => 0))), (q4, .inl (cA .int, 40, .inl (fun _ => 0))), (q5, .inl (cA .int, 40, .inl (fun _ => 0))), (q6, .inl (cA .boolean, 40, .inl (fun _ => 0))), (q7, .inl (cA .int, 40, .inl (fun _ => 0))), (q8, .inl (cA .int, 40, .inl (fun _ => 0))), (q9, .inl (cA .int, 10, .inl (fun _ => 0))), (q10, .inl (cA .int, 576, .inl (fun _ => 0))), (q11, .inl (cA .int, 24, .inl (fun _ => 0))), (q12, .inl (cA .int, 24, .inl (fun _ => 0))), (q13, .inl (cA .int, 2, .inl (fun _ => 0))), (q14, .inl (cA .int, 80, .inl (fun _ => 0)))] := hD
  refine lv_aload_n hx hb (show decode prog_6_method_1_code 124 = .ok (.aload_n 0, 1) by decide +kernel) rfl (lv_at hl 0 rfl) ?_
  refine lv_bipush (v := 40) hx hb (show decode prog_6_method_1_code 125 = .ok (.bipush 40, 2) by decide +kernel) (by decide) ?_
  refine gx_na (cA := cA) hx hb (ty := .boolean) rfl (htb _ gx_aZ) rfl (gx_raZ hK) hK hP hD hS hA 40 (by decide) (by decide) (by decide) (Nat.le_of_ble_eq_true rfl) (Nat.le_of_ble_eq_true rfl) (show decode prog_6_method_1_code 127 = .ok (.newarray .boolean, 2) by decide +kernel) (fun q15 H hP hD hS => ?_)
  have hP : va_P D gx_cl [(h0, .inr (4, [.int 0, .ref q0, .ref q1, .int 0, .ref q2, .ref q3, .ref q4, .ref q5, .ref q6, .int 0, .ref q7, .ref q8, .ref q9, .ref q10, .ref q11, .ref q12, .int 0, .int 0, .ref q13, .ref q14, .null, .int 0, .null, .null, .null, .null, .null, .null, .null])), (q0, .inl (cA .int, 10, .inl (fun _ => 0))), (q1, .inl (cA .int, 10, .inl (fun _ => 0))), (q2, .inl (cA .int, 40, .inl (fun _ => 0))), (q3, .inl (cA .int, 40, .inl (fun _ => 0))), (q4, .inl (cA .int, 40, .inl (fun _ => 0))), (q5, .inl (cA .int, 40, .inl (fun _ => 0))), (q6, .inl (cA .boolean, 40, .inl (fun _ => 0))), (q7, .inl (cA .int, 40, .inl (fun _ => 0))), (q8, .inl (cA .int, 40, .inl (fun _ => 0))), (q9, .inl (cA .int, 10, .inl (fun _ => 0))), (q10, .inl (cA .int, 576, .inl (fun _ => 0))), (q11, .inl (cA .int, 24, .inl (fun _ => 0))), (q12, .inl (cA .int, 24, .inl (fun _ => 0))), (q13, .inl (cA .int, 2, .inl (fun _ => 0))), (q14, .inl (cA .int, 80, .inl (fun _ => 0))), (q15, .inl (cA .boolean, 40, .inl (fun _ => 0)))] H := hP
  have hD : va_D A [(h0, .inr (4, [.int 0, .ref q0, .ref q1, .int 0, .ref q2, .ref q3, .ref q4, .ref q5, .ref q6, .int 0, .ref q7, .ref q8, .ref q9, .ref q10, .ref q11, .ref q12, .int 0, .int 0, .ref q13, .ref q14, .null, .int 0, .null, .null, .null, .null, .null, .null, .null])), (q0, .inl (cA .int, 10, .inl (fun _ => 0))), (q1, .inl (cA .int, 10, .inl (fun _ => 0))), (q2, .inl (cA .int, 40, .inl (fun _ => 0))), (q3, .inl (cA .int, 40, .inl (fun _ => 0))), (q4, .inl (cA .int, 40, .inl (fun _ => 0))), (q5, .inl (cA .int, 40, .inl (fun _ => 0))), (q6, .inl (cA .boolean, 40, .inl (fun _ => 0))), (q7, .inl (cA .int, 40, .inl (fun _ => 0))), (q8, .inl (cA .int, 40, .inl (fun _ => 0))), (q9, .inl (cA .int, 10, .inl (fun _ => 0))), (q10, .inl (cA .int, 576, .inl (fun _ => 0))), (q11, .inl (cA .int, 24, .inl (fun _ => 0))), (q12, .inl (cA .int, 24, .inl (fun _ => 0))), (q13, .inl (cA .int, 2, .inl (fun _ => 0))), (q14, .inl (cA .int, 80, .inl (fun _ => 0))), (q15, .inl (cA .boolean, 40, .inl (fun _ => 0)))] := hD
  refine W.cs (cells' := 16) (slots' := 1056) rfl rfl ?_
  refine va_putF (D := D) (ci := 4) (v := .ref q15) (ty := .array .boolean) (C := gR4) (T := gT4) (N := 29) hx hb htb gx_lay4 gY4 gY4_ok gN4 hown hK hP hD hS 0 rfl rfl 20 (by decide) (htb _ (show Cond.fieldLink gR4 56 "GreatestFlowModel" "isBarred" "[Z" ∈ gx_TBL from gx_in2 231 rfl rfl)) (fun _ h9 => h9) rfl hin rfl (by decide +kernel) rfl rfl (Nat.le_of_ble_eq_true rfl) (show decode prog_6_method_1_code 129 = .ok (.putfield 56, 3) by decide +kernel) (fun H locs hP hD hS => ?_)
  have hP : va_P D gx_cl [(h0, .inr (4, [.int 0, .ref q0, .ref q1, .int 0, .ref q2, .ref q3, .ref q4, .ref q5, .ref q6, .int 0, .ref q7, .ref q8, .ref q9, .ref q10, .ref q11, .ref q12, .int 0, .int 0, .ref q13, .ref q14, .ref q15, .int 0, .null, .null, .null, .null, .null, .null, .null])), (q0, .inl (cA .int, 10, .inl (fun _ => 0))), (q1, .inl (cA .int, 10, .inl (fun _ => 0))), (q2, .inl (cA .int, 40, .inl (fun _ => 0))), (q3, .inl (cA .int, 40, .inl (fun _ => 0))), (q4, .inl (cA .int, 40, .inl (fun _ => 0))), (q5, .inl (cA .int, 40, .inl (fun _ => 0))), (q6, .inl (cA .boolean, 40, .inl (fun _ => 0))), (q7, .inl (cA .int, 40, .inl (fun _ => 0))), (q8, .inl (cA .int, 40, .inl (fun _ => 0))), (q9, .inl (cA .int, 10, .inl (fun _ => 0))), (q10, .inl (cA .int, 576, .inl (fun _ => 0))), (q11, .inl (cA .int, 24, .inl (fun _ => 0))), (q12, .inl (cA .int, 24, .inl (fun _ => 0))), (q13, .inl (cA .int, 2, .inl (fun _ => 0))), (q14, .inl (cA .int, 80, .inl (fun _ => 0))), (q15, .inl (cA .boolean, 40, .inl (fun _ => 0)))] H := hP
  have hD : va_D A [(h0, .inr (4, [.int 0, .ref q0, .ref q1, .int 0, .ref q2, .ref q3, .ref q4, .ref q5, .ref q6, .int 0, .ref q7, .ref q8, .ref q9, .ref q10, .ref q11, .ref q12, .int 0, .int 0, .ref q13, .ref q14, .ref q15, .int 0, .null, .null, .null, .null, .null, .null, .null])), (q0, .inl (cA .int, 10, .inl (fun _ => 0))), (q1, .inl (cA .int, 10, .inl (fun _ => 0))), (q2, .inl (cA .int, 40, .inl (fun _ => 0))), (q3, .inl (cA .int, 40, .inl (fun _ => 0))), (q4, .inl (cA .int, 40, .inl (fun _ => 0))), (q5, .inl (cA .int, 40, .inl (fun _ => 0))), (q6, .inl (cA .boolean, 40, .inl (fun _ => 0))), (q7, .inl (cA .int, 40, .inl (fun _ => 0))), (q8, .inl (cA .int, 40, .inl (fun _ => 0))), (q9, .inl (cA .int, 10, .inl (fun _ => 0))), (q10, .inl (cA .int, 576, .inl (fun _ => 0))), (q11, .inl (cA .int, 24, .inl (fun _ => 0))), (q12, .inl (cA .int, 24, .inl (fun _ => 0))), (q13, .inl (cA .int, 2, .inl (fun _ => 0))), (q14, .inl (cA .int, 80, .inl (fun _ => 0))), (q15, .inl (cA .boolean, 40, .inl (fun _ => 0)))] := hD
  refine lv_aload_n hx hb (show decode prog_6_method_1_code 132 = .ok (.aload_n 0, 1) by decide +kernel) rfl (lv_at hl 0 rfl) ?_
  refine lv_bipush (v := 80) hx hb (show decode prog_6_method_1_code 133 = .ok (.bipush 80, 2) by decide +kernel) (by decide) ?_
  refine gx_na (cA := cA) hx hb (ty := .int) rfl (htb _ gx_aI) rfl (gx_raI hK) hK hP hD hS hA 80 (by decide) (by decide) (by decide) (Nat.le_of_ble_eq_true rfl) (Nat.le_of_ble_eq_true rfl) (show decode prog_6_method_1_code 135 = .ok (.newarray .int, 2) by decide +kernel) (fun q16 H hP hD hS => ?_)
  have hP : va_P D gx_cl [(h0, .inr (4, [.int 0, .ref q0, .ref q1, .int 0, .ref q2, .ref q3, .ref q4, .ref q5, .ref q6, .int 0, .ref q7, .ref q8, .ref q9, .ref q10, .ref q11, .ref q12, .int 0, .int 0, .ref q13, .ref q14, .ref q15, .int 0, .null, .null, .null, .null, .null, .null, .null])), (q0, .inl (cA .int, 10, .inl (fun _ => 0))), (q1, .inl (cA .int, 10, .inl (fun _ => 0))), (q2, .inl (cA .int, 40, .inl (fun _ => 0))), (q3, .inl (cA .int, 40, .inl (fun _ => 0))), (q4, .inl (cA .int, 40, .inl (fun _ => 0))), (q5, .inl (cA .int, 40, .inl (fun _ => 0))), (q6, .inl (cA .boolean, 40, .inl (fun _ => 0))), (q7, .inl (cA .int, 40, .inl (fun _ => 0))), (q8, .inl (cA .int, 40, .inl (fun _ => 0))), (q9, .inl (cA .int, 10, .inl (fun _ => 0))), (q10, .inl (cA .int, 576, .inl (fun _ => 0))), (q11, .inl (cA .int, 24, .inl (fun _ => 0))), (q12, .inl (cA .int, 24, .inl (fun _ => 0))), (q13, .inl (cA .int, 2, .inl (fun _ => 0))), (q14, .inl (cA .int, 80, .inl (fun _ => 0))), (q15, .inl (cA .boolean, 40, .inl (fun _ => 0))), (q16, .inl (cA .int, 80, .inl (fun _ => 0)))] H := hP
  have hD : va_D A [(h0, .inr (4, [.int 0, .ref q0, .ref q1, .int 0, .ref q2, .ref q3, .ref q4, .ref q5, .ref q6, .int 0, .ref q7, .ref q8, .ref q9, .ref q10, .ref q11, .ref q12, .int 0, .int 0, .ref q13, .ref q14, .ref q15, .int 0, .null, .null, .null, .null, .null, .null, .null])), (q0, .inl (cA .int, 10, .inl (fun _ => 0))), (q1, .inl (cA .int, 10, .inl (fun _ => 0))), (q2, .inl (cA .int, 40, .inl (fun _ => 0))), (q3, .inl (cA .int, 40, .inl (fun _ => 0))), (q4, .inl (cA .int, 40, .inl (fun _ => 0))), (q5, .inl (cA .int, 40, .inl (fun _ => 0))), (q6, .inl (cA .boolean, 40, .inl (fun _ => 0))), (q7, .inl (cA .int, 40, .inl (fun _ => 0))), (q8, .inl (cA .int, 40, .inl (fun _ => 0))), (q9, .inl (cA .int, 10, .inl (fun _ => 0))), (q10, .inl (cA .int, 576, .inl (fun _ => 0))), (q11, .inl (cA .int, 24, .inl (fun _ => 0))), (q12, .inl (cA .int, 24, .inl (fun _ => 0))), (q13, .inl (cA .int, 2, .inl (fun _ => 0))), (q14, .inl (cA .int, 80, .inl (fun _ => 0))), (q15, .inl (cA .boolean, 40, .inl (fun _ => 0))), (q16, .inl (cA .int, 80, .inl (fun _ => 0)))] := hD
  refine W.cs (cells' := 17) (slots' := 1136) rfl rfl ?_
  refine va_putF (D := D) (ci := 4) (v := .ref q16) (ty := .array .int) (C := gR4) (T := gT4) (N := 29) hx hb htb gx_lay4 gY4 gY4_ok gN4 hown hK hP hD hS 0 rfl rfl 22 (by decide) (htb _ (show Cond.fieldLink gR4 59 "GreatestFlowModel" "streamSize" "[I" ∈ gx_TBL from gx_in2 233 rfl rfl)) (fun _ h9 => h9) rfl hin rfl (by decide +kernel) rfl rfl (Nat.le_of_ble_eq_true rfl) (show decode prog_6_method_1_code 137 = .ok (.putfield 59, 3) by decide +kernel) (fun H locs hP hD hS => ?_)
  have hP : va_P D gx_cl [(h0, .inr (4, [.int 0, .ref q0, .ref q1, .int 0, .ref q2, .ref q3, .ref q4, .ref q5, .ref q6, .int 0, .ref q7, .ref q8, .ref q9, .ref q10, .ref q11, .ref q12, .int 0, .int 0, .ref q13, .ref q14, .ref q15, .int 0, .ref q16, .null, .null, .null, .null, .null, .null])), (q0, .inl (cA .int, 10, .inl (fun _ => 0))), (q1, .inl (cA .int, 10, .inl (fun _ => 0))), (q2, .inl (cA .int, 40, .inl (fun _ => 0))), (q3, .inl (cA .int, 40, .inl (fun _ => 0))), (q4, .inl (cA .int, 40, .inl (fun _ => 0))), (q5, .inl (cA .int, 40, .inl (fun _ => 0))), (q6, .inl (cA .boolean, 40, .inl (fun _ => 0))), (q7, .inl (cA .int, 40, .inl (fun _ => 0))), (q8, .inl (cA .int, 40, .inl (fun _ => 0))), (q9, .inl (cA .int, 10, .inl (fun _ => 0))), (q10, .inl (cA .int, 576, .inl (fun _ => 0))), (q11, .inl (cA .int, 24, .inl (fun _ => 0))), (q12, .inl (cA .int, 24, .inl (fun _ => 0))), (q13, .inl (cA .int, 2, .inl (fun _ => 0))), (q14, .inl (cA .int, 80, .inl (fun _ => 0))), (q15, .inl (cA .boolean, 40, .inl (fun _ => 0))), (q16, .inl (cA .int, 80, .inl (fun _ => 0)))] H := hP
  have hD : va_D A [(h0, .inr (4, [.int 0, .ref q0, .ref q1, .int 0, .ref q2, .ref q3, .ref q4, .ref q5, .ref q6, .int 0, .ref q7, .ref q8, .ref q9, .ref q10, .ref q11, .ref q12, .int 0, .int 0, .ref q13, .ref q14, .ref q15, .int 0, .ref q16, .null, .null, .null, .null, .null, .null])), (q0, .inl (cA .int, 10, .inl (fun _ => 0))), (q1, .inl (cA .int, 10, .inl (fun _ => 0))), (q2, .inl (cA .int, 40, .inl (fun _ => 0))), (q3, .inl (cA .int, 40, .inl (fun _ => 0))), (q4, .inl (cA .int, 40, .inl (fun _ => 0))), (q5, .inl (cA .int, 40, .inl (fun _ => 0))), (q6, .inl (cA .boolean, 40, .inl (fun _ => 0))), (q7, .inl (cA .int, 40, .inl (fun _ => 0))), (q8, .inl (cA .int, 40, .inl (fun _ => 0))), (q9, .inl (cA .int, 10, .inl (fun _ => 0))), (q10, .inl (cA .int, 576, .inl (fun _ => 0))), (q11, .inl (cA .int, 24, .inl (fun _ => 0))), (q12, .inl (cA .int, 24, .inl (fun _ => 0))), (q13, .inl (cA .int, 2, .inl (fun _ => 0))), (q14, .inl (cA .int, 80, .inl (fun _ => 0))), (q15, .inl (cA .boolean, 40, .inl (fun _ => 0))), (q16, .inl (cA .int, 80, .inl (fun _ => 0)))] := hD
  refine lv_aload_n hx hb (show decode prog_6_method_1_code 140 = .ok (.aload_n 0, 1) by decide +kernel) rfl (lv_at hl 0 rfl) ?_
  refine lv_bipush (v := 80) hx hb (show decode prog_6_method_1_code 141 = .ok (.bipush 80, 2) by decide +kernel) (by decide) ?_
  refine gx_na (cA := cA) hx hb (ty := .int) rfl (htb _ gx_aI) rfl (gx_raI hK) hK hP hD hS hA 80 (by decide) (by decide) (by decide) (Nat.le_of_ble_eq_true rfl) (Nat.le_of_ble_eq_true rfl) (show decode prog_6_method_1_code 143 = .ok (.newarray .int, 2) by decide +kernel) (fun q17 H hP hD hS => ?_)
  have hP : va_P D gx_cl [(h0, .inr (4, [.int 0, .ref q0, .ref q1, .int 0, .ref q2, .ref q3, .ref q4, .ref q5, .ref q6, .int 0, .ref q7, .ref q8, .ref q9, .ref q10, .ref q11, .ref q12, .int 0, .int 0, .ref q13, .ref q14, .ref q15, .int 0, .ref q16, .null, .null, .null, .null, .null, .null])), (q0, .inl (cA .int, 10, .inl (fun _ => 0))), (q1, .inl (cA .int, 10, .inl (fun _ => 0))), (q2, .inl (cA .int, 40, .inl (fun _ => 0))), (q3, .inl (cA .int, 40, .inl (fun _ => 0))), (q4, .inl (cA .int, 40, .inl (fun _ => 0))), (q5, .inl (cA .int, 40, .inl (fun _ => 0))), (q6, .inl (cA .boolean, 40, .inl (fun _ => 0))), (q7, .inl (cA .int, 40, .inl (fun _ => 0))), (q8, .inl (cA .int, 40, .inl (fun _ => 0))), (q9, .inl (cA .int, 10, .inl (fun _ => 0))), (q10, .inl (cA .int, 576, .inl (fun _ => 0))), (q11, .inl (cA .int, 24, .inl (fun _ => 0))), (q12, .inl (cA .int, 24, .inl (fun _ => 0))), (q13, .inl (cA .int, 2, .inl (fun _ => 0))), (q14, .inl (cA .int, 80, .inl (fun _ => 0))), (q15, .inl (cA .boolean, 40, .inl (fun _ => 0))), (q16, .inl (cA .int, 80, .inl (fun _ => 0))), (q17, .inl (cA .int, 80, .inl (fun _ => 0)))] H := hP
  have hD : va_D A [(h0, .inr (4, [.int 0, .ref q0, .ref q1, .int 0, .ref q2, .ref q3, .ref q4, .ref q5, .ref q6, .int 0, .ref q7, .ref q8, .ref q9, .ref q10, .ref q11, .ref q12, .int 0, .int 0, .ref q13, .ref q14, .ref q15, .int 0, .ref q16, .null, .null, .null, .null, .null, .null])), (q0, .inl (cA .int, 10, .inl (fun _ => 0))), (q1, .inl (cA .int, 10, .inl (fun _ => 0))), (q2, .inl (cA .int, 40, .inl (fun _ => 0))), (q3, .inl (cA .int, 40, .inl (fun _ => 0))), (q4, .inl (cA .int, 40, .inl (fun _ => 0))), (q5, .inl (cA .int, 40, .inl (fun _ => 0))), (q6, .inl (cA .boolean, 40, .inl (fun _ => 0))), (q7, .inl (cA .int, 40, .inl (fun _ => 0))), (q8, .inl (cA .int, 40, .inl (fun _ => 0))), (q9, .inl (cA .int, 10, .inl (fun _ => 0))), (q10, .inl (cA .int, 576, .inl (fun _ => 0))), (q11, .inl (cA .int, 24, .inl (fun _ => 0))), (q12, .inl (cA .int, 24, .inl (fun _ => 0))), (q13, .inl (cA .int, 2, .inl (fun _ => 0))), (q14, .inl (cA .int, 80, .inl (fun _ => 0))), (q15, .inl (cA .boolean, 40, .inl (fun _ => 0))), (q16, .inl (cA .int, 80, .inl (fun _ => 0))), (q17, .inl (cA .int, 80, .inl (fun _ => 0)))] := hD
  refine W.cs (cells' := 18) (slots' := 1216) rfl rfl ?_
  refine va_putF (D := D) (ci := 4) (v := .ref q17) (ty := .array .int) (C := gR4) (T := gT4) (N := 29) hx hb htb gx_lay4 gY4 gY4_ok gN4 hown hK hP hD hS 0 rfl rfl 23 (by decide) (htb _ (show Cond.fieldLink gR4 62 "GreatestFlowModel" "streamArcs" "[I" ∈ gx_TBL from gx_in2 234 rfl rfl)) (fun _ h9 => h9) rfl hin rfl (by decide +kernel) rfl rfl (Nat.le_of_ble_eq_true rfl) (show decode prog_6_method_1_code 145 = .ok (.putfield 62, 3) by decide +kernel) (fun H locs hP hD hS => ?_)
  have hP : va_P D gx_cl [(h0, .inr (4, [.int 0, .ref q0, .ref q1, .int 0, .ref q2, .ref q3, .ref q4, .ref q5, .ref q6, .int 0, .ref q7, .ref q8, .ref q9, .ref q10, .ref q11, .ref q12, .int 0, .int 0, .ref q13, .ref q14, .ref q15, .int 0, .ref q16, .ref q17, .null, .null, .null, .null, .null])), (q0, .inl (cA .int, 10, .inl (fun _ => 0))), (q1, .inl (cA .int, 10, .inl (fun _ => 0))), (q2, .inl (cA .int, 40, .inl (fun _ => 0))), (q3, .inl (cA .int, 40, .inl (fun _ => 0))), (q4, .inl (cA .int, 40, .inl (fun _ => 0))), (q5, .inl (cA .int, 40, .inl (fun _ => 0))), (q6, .inl (cA .boolean, 40, .inl (fun _ => 0))), (q7, .inl (cA .int, 40, .inl (fun _ => 0))), (q8, .inl (cA .int, 40, .inl (fun _ => 0))), (q9, .inl (cA .int, 10, .inl (fun _ => 0))), (q10, .inl (cA .int, 576, .inl (fun _ => 0))), (q11, .inl (cA .int, 24, .inl (fun _ => 0))), (q12, .inl (cA .int, 24, .inl (fun _ => 0))), (q13, .inl (cA .int, 2, .inl (fun _ => 0))), (q14, .inl (cA .int, 80, .inl (fun _ => 0))), (q15, .inl (cA .boolean, 40, .inl (fun _ => 0))), (q16, .inl (cA .int, 80, .inl (fun _ => 0))), (q17, .inl (cA .int, 80, .inl (fun _ => 0)))] H := hP
  have hD : va_D A [(h0, .inr (4, [.int 0, .ref q0, .ref q1, .int 0, .ref q2, .ref q3, .ref q4, .ref q5, .ref q6, .int 0, .ref q7, .ref q8, .ref q9, .ref q10, .ref q11, .ref q12, .int 0, .int 0, .ref q13, .ref q14, .ref q15, .int 0, .ref q16, .ref q17, .null, .null, .null, .null, .null])), (q0, .inl (cA .int, 10, .inl (fun _ => 0))), (q1, .inl (cA .int, 10, .inl (fun _ => 0))), (q2, .inl (cA .int, 40, .inl (fun _ => 0))), (q3, .inl (cA .int, 40, .inl (fun _ => 0))), (q4, .inl (cA .int, 40, .inl (fun _ => 0))), (q5, .inl (cA .int, 40, .inl (fun _ => 0))), (q6, .inl (cA .boolean, 40, .inl (fun _ => 0))), (q7, .inl (cA .int, 40, .inl (fun _ => 0))), (q8, .inl (cA .int, 40, .inl (fun _ => 0))), (q9, .inl (cA .int, 10, .inl (fun _ => 0))), (q10, .inl (cA .int, 576, .inl (fun _ => 0))), (q11, .inl (cA .int, 24, .inl (fun _ => 0))), (q12, .inl (cA .int, 24, .inl (fun _ => 0))), (q13, .inl (cA .int, 2, .inl (fun _ => 0))), (q14, .inl (cA .int, 80, .inl (fun _ => 0))), (q15, .inl (cA .boolean, 40, .inl (fun _ => 0))), (q16, .inl (cA .int, 80, .inl (fun _ => 0))), (q17, .inl (cA .int, 80, .inl (fun _ => 0)))] := hD
  refine lv_aload_n hx hb (show decode prog_6_method_1_code 148 = .ok (.aload_n 0, 1) by decide +kernel) rfl (lv_at hl 0 rfl) ?_
  refine lv_sipush (v := 800) hx hb (show decode prog_6_method_1_code 149 = .ok (.sipush 800, 3) by decide +kernel) (by decide) ?_
  refine gx_na (cA := cA) hx hb (ty := .int) rfl (htb _ gx_aI) rfl (gx_raI hK) hK hP hD hS hA 800 (by decide) (by decide) (by decide) (Nat.le_of_ble_eq_true rfl) (Nat.le_of_ble_eq_true rfl) (show decode prog_6_method_1_code 152 = .ok (.newarray .int, 2) by decide +kernel) (fun q18 H hP hD hS => ?_)
  have hP : va_P D gx_cl [(h0, .inr (4, [.int 0, .ref q0, .ref q1, .int 0, .ref q2, .ref q3, .ref q4, .ref q5, .ref q6, .int 0, .ref q7, .ref q8, .ref q9, .ref q10, .ref q11, .ref q12, .int 0, .int 0, .ref q13, .ref q14, .ref q15, .int 0, .ref q16, .ref q17, .null, .null, .null, .null, .null])), (q0, .inl (cA .int, 10, .inl (fun _ => 0))), (q1, .inl (cA .int, 10, .inl (fun _ => 0))), (q2, .inl (cA .int, 40, .inl (fun _ => 0))), (q3, .inl (cA .int, 40, .inl (fun _ => 0))), (q4, .inl (cA .int, 40, .inl (fun _ => 0))), (q5, .inl (cA .int, 40, .inl (fun _ => 0))), (q6, .inl (cA .boolean, 40, .inl (fun _ => 0))), (q7, .inl (cA .int, 40, .inl (fun _ => 0))), (q8, .inl (cA .int, 40, .inl (fun _ => 0))), (q9, .inl (cA .int, 10, .inl (fun _ => 0))), (q10, .inl (cA .int, 576, .inl (fun _ => 0))), (q11, .inl (cA .int, 24, .inl (fun _ => 0))), (q12, .inl (cA .int, 24, .inl (fun _ => 0))), (q13, .inl (cA .int, 2, .inl (fun _ => 0))), (q14, .inl (cA .int, 80, .inl (fun _ => 0))), (q15, .inl (cA .boolean, 40, .inl (fun _ => 0))), (q16, .inl (cA .int, 80, .inl (fun _ => 0))), (q17, .inl (cA .int, 80, .inl (fun _ => 0))), (q18, .inl (cA .int, 800, .inl (fun _ => 0)))] H := hP
  have hD : va_D A [(h0, .inr (4, [.int 0, .ref q0, .ref q1, .int 0, .ref q2, .ref q3, .ref q4, .ref q5, .ref q6, .int 0, .ref q7, .ref q8, .ref q9, .ref q10, .ref q11, .ref q12, .int 0, .int 0, .ref q13, .ref q14, .ref q15, .int 0, .ref q16, .ref q17, .null, .null, .null, .null, .null])), (q0, .inl (cA .int, 10, .inl (fun _ => 0))), (q1, .inl (cA .int, 10, .inl (fun _ => 0))), (q2, .inl (cA .int, 40, .inl (fun _ => 0))), (q3, .inl (cA .int, 40, .inl (fun _ => 0))), (q4, .inl (cA .int, 40, .inl (fun _ => 0))), (q5, .inl (cA .int, 40, .inl (fun _ => 0))), (q6, .inl (cA .boolean, 40, .inl (fun _ => 0))), (q7, .inl (cA .int, 40, .inl (fun _ => 0))), (q8, .inl (cA .int, 40, .inl (fun _ => 0))), (q9, .inl (cA .int, 10, .inl (fun _ => 0))), (q10, .inl (cA .int, 576, .inl (fun _ => 0))), (q11, .inl (cA .int, 24, .inl (fun _ => 0))), (q12, .inl (cA .int, 24, .inl (fun _ => 0))), (q13, .inl (cA .int, 2, .inl (fun _ => 0))), (q14, .inl (cA .int, 80, .inl (fun _ => 0))), (q15, .inl (cA .boolean, 40, .inl (fun _ => 0))), (q16, .inl (cA .int, 80, .inl (fun _ => 0))), (q17, .inl (cA .int, 80, .inl (fun _ => 0))), (q18, .inl (cA .int, 800, .inl (fun _ => 0)))] := hD
  refine W.cs (cells' := 19) (slots' := 2016) rfl rfl ?_
  refine va_putF (D := D) (ci := 4) (v := .ref q18) (ty := .array .int) (C := gR4) (T := gT4) (N := 29) hx hb htb gx_lay4 gY4 gY4_ok gN4 hown hK hP hD hS 0 rfl rfl 24 (by decide) (htb _ (show Cond.fieldLink gR4 65 "GreatestFlowModel" "streamArc" "[I" ∈ gx_TBL from gx_in2 235 rfl rfl)) (fun _ h9 => h9) rfl hin rfl (by decide +kernel) rfl rfl (Nat.le_of_ble_eq_true rfl) (show decode prog_6_method_1_code 154 = .ok (.putfield 65, 3) by decide +kernel) (fun H locs hP hD hS => ?_)
  have hP : va_P D gx_cl [(h0, .inr (4, [.int 0, .ref q0, .ref q1, .int 0, .ref q2, .ref q3, .ref q4, .ref q5, .ref q6, .int 0, .ref q7, .ref q8, .ref q9, .ref q10, .ref q11, .ref q12, .int 0, .int 0, .ref q13, .ref q14, .ref q15, .int 0, .ref q16, .ref q17, .ref q18, .null, .null, .null, .null])), (q0, .inl (cA .int, 10, .inl (fun _ => 0))), (q1, .inl (cA .int, 10, .inl (fun _ => 0))), (q2, .inl (cA .int, 40, .inl (fun _ => 0))), (q3, .inl (cA .int, 40, .inl (fun _ => 0))), (q4, .inl (cA .int, 40, .inl (fun _ => 0))), (q5, .inl (cA .int, 40, .inl (fun _ => 0))), (q6, .inl (cA .boolean, 40, .inl (fun _ => 0))), (q7, .inl (cA .int, 40, .inl (fun _ => 0))), (q8, .inl (cA .int, 40, .inl (fun _ => 0))), (q9, .inl (cA .int, 10, .inl (fun _ => 0))), (q10, .inl (cA .int, 576, .inl (fun _ => 0))), (q11, .inl (cA .int, 24, .inl (fun _ => 0))), (q12, .inl (cA .int, 24, .inl (fun _ => 0))), (q13, .inl (cA .int, 2, .inl (fun _ => 0))), (q14, .inl (cA .int, 80, .inl (fun _ => 0))), (q15, .inl (cA .boolean, 40, .inl (fun _ => 0))), (q16, .inl (cA .int, 80, .inl (fun _ => 0))), (q17, .inl (cA .int, 80, .inl (fun _ => 0))), (q18, .inl (cA .int, 800, .inl (fun _ => 0)))] H := hP
  have hD : va_D A [(h0, .inr (4, [.int 0, .ref q0, .ref q1, .int 0, .ref q2, .ref q3, .ref q4, .ref q5, .ref q6, .int 0, .ref q7, .ref q8, .ref q9, .ref q10, .ref q11, .ref q12, .int 0, .int 0, .ref q13, .ref q14, .ref q15, .int 0, .ref q16, .ref q17, .ref q18, .null, .null, .null, .null])), (q0, .inl (cA .int, 10, .inl (fun _ => 0))), (q1, .inl (cA .int, 10, .inl (fun _ => 0))), (q2, .inl (cA .int, 40, .inl (fun _ => 0))), (q3, .inl (cA .int, 40, .inl (fun _ => 0))), (q4, .inl (cA .int, 40, .inl (fun _ => 0))), (q5, .inl (cA .int, 40, .inl (fun _ => 0))), (q6, .inl (cA .boolean, 40, .inl (fun _ => 0))), (q7, .inl (cA .int, 40, .inl (fun _ => 0))), (q8, .inl (cA .int, 40, .inl (fun _ => 0))), (q9, .inl (cA .int, 10, .inl (fun _ => 0))), (q10, .inl (cA .int, 576, .inl (fun _ => 0))), (q11, .inl (cA .int, 24, .inl (fun _ => 0))), (q12, .inl (cA .int, 24, .inl (fun _ => 0))), (q13, .inl (cA .int, 2, .inl (fun _ => 0))), (q14, .inl (cA .int, 80, .inl (fun _ => 0))), (q15, .inl (cA .boolean, 40, .inl (fun _ => 0))), (q16, .inl (cA .int, 80, .inl (fun _ => 0))), (q17, .inl (cA .int, 80, .inl (fun _ => 0))), (q18, .inl (cA .int, 800, .inl (fun _ => 0)))] := hD
  refine lv_aload_n hx hb (show decode prog_6_method_1_code 157 = .ok (.aload_n 0, 1) by decide +kernel) rfl (lv_at hl 0 rfl) ?_
  refine lv_bipush (v := 40) hx hb (show decode prog_6_method_1_code 158 = .ok (.bipush 40, 2) by decide +kernel) (by decide) ?_
  refine gx_na (cA := cA) hx hb (ty := .int) rfl (htb _ gx_aI) rfl (gx_raI hK) hK hP hD hS hA 40 (by decide) (by decide) (by decide) (Nat.le_of_ble_eq_true rfl) (Nat.le_of_ble_eq_true rfl) (show decode prog_6_method_1_code 160 = .ok (.newarray .int, 2) by decide +kernel) (fun q19 H hP hD hS => ?_)
  have hP : va_P D gx_cl [(h0, .inr (4, [.int 0, .ref q0, .ref q1, .int 0, .ref q2, .ref q3, .ref q4, .ref q5, .ref q6, .int 0, .ref q7, .ref q8, .ref q9, .ref q10, .ref q11, .ref q12, .int 0, .int 0, .ref q13, .ref q14, .ref q15, .int 0, .ref q16, .ref q17, .ref q18, .null, .null, .null, .null])), (q0, .inl (cA .int, 10, .inl (fun _ => 0))), (q1, .inl (cA .int, 10, .inl (fun _ => 0))), (q2, .inl (cA .int, 40, .inl (fun _ => 0))), (q3, .inl (cA .int, 40, .inl (fun _ => 0))), (q4, .inl (cA .int, 40, .inl (fun _ => 0))), (q5, .inl (cA .int, 40, .inl (fun _ => 0))), (q6, .inl (cA .boolean, 40, .inl (fun _ => 0))), (q7, .inl (cA .int, 40, .inl (fun _ => 0))), (q8, .inl (cA .int, 40, .inl (fun _ => 0))), (q9, .inl (cA .int, 10, .inl (fun _ => 0))), (q10, .inl (cA .int, 576, .inl (fun _ => 0))), (q11, .inl (cA .int, 24, .inl (fun _ => 0))), (q12, .inl (cA .int, 24, .inl (fun _ => 0))), (q13, .inl (cA .int, 2, .inl (fun _ => 0))), (q14, .inl (cA .int, 80, .inl (fun _ => 0))), (q15, .inl (cA .boolean, 40, .inl (fun _ => 0))), (q16, .inl (cA .int, 80, .inl (fun _ => 0))), (q17, .inl (cA .int, 80, .inl (fun _ => 0))), (q18, .inl (cA .int, 800, .inl (fun _ => 0))), (q19, .inl (cA .int, 40, .inl (fun _ => 0)))] H := hP
  have hD : va_D A [(h0, .inr (4, [.int 0, .ref q0, .ref q1, .int 0, .ref q2, .ref q3, .ref q4, .ref q5, .ref q6, .int 0, .ref q7, .ref q8, .ref q9, .ref q10, .ref q11, .ref q12, .int 0, .int 0, .ref q13, .ref q14, .ref q15, .int 0, .ref q16, .ref q17, .ref q18, .null, .null, .null, .null])), (q0, .inl (cA .int, 10, .inl (fun _ => 0))), (q1, .inl (cA .int, 10, .inl (fun _ => 0))), (q2, .inl (cA .int, 40, .inl (fun _ => 0))), (q3, .inl (cA .int, 40, .inl (fun _ => 0))), (q4, .inl (cA .int, 40, .inl (fun _ => 0))), (q5, .inl (cA .int, 40, .inl (fun _ => 0))), (q6, .inl (cA .boolean, 40, .inl (fun _ => 0))), (q7, .inl (cA .int, 40, .inl (fun _ => 0))), (q8, .inl (cA .int, 40, .inl (fun _ => 0))), (q9, .inl (cA .int, 10, .inl (fun _ => 0))), (q10, .inl (cA .int, 576, .inl (fun _ => 0))), (q11, .inl (cA .int, 24, .inl (fun _ => 0))), (q12, .inl (cA .int, 24, .inl (fun _ => 0))), (q13, .inl (cA .int, 2, .inl (fun _ => 0))), (q14, .inl (cA .int, 80, .inl (fun _ => 0))), (q15, .inl (cA .boolean, 40, .inl (fun _ => 0))), (q16, .inl (cA .int, 80, .inl (fun _ => 0))), (q17, .inl (cA .int, 80, .inl (fun _ => 0))), (q18, .inl (cA .int, 800, .inl (fun _ => 0))), (q19, .inl (cA .int, 40, .inl (fun _ => 0)))] := hD
  refine W.cs (cells' := 20) (slots' := 2056) rfl rfl ?_
  refine va_putF (D := D) (ci := 4) (v := .ref q19) (ty := .array .int) (C := gR4) (T := gT4) (N := 29) hx hb htb gx_lay4 gY4 gY4_ok gN4 hown hK hP hD hS 0 rfl rfl 25 (by decide) (htb _ (show Cond.fieldLink gR4 68 "GreatestFlowModel" "over" "[I" ∈ gx_TBL from gx_in2 236 rfl rfl)) (fun _ h9 => h9) rfl hin rfl (by decide +kernel) rfl rfl (Nat.le_of_ble_eq_true rfl) (show decode prog_6_method_1_code 162 = .ok (.putfield 68, 3) by decide +kernel) (fun H locs hP hD hS => ?_)
  have hP : va_P D gx_cl [(h0, .inr (4, [.int 0, .ref q0, .ref q1, .int 0, .ref q2, .ref q3, .ref q4, .ref q5, .ref q6, .int 0, .ref q7, .ref q8, .ref q9, .ref q10, .ref q11, .ref q12, .int 0, .int 0, .ref q13, .ref q14, .ref q15, .int 0, .ref q16, .ref q17, .ref q18, .ref q19, .null, .null, .null])), (q0, .inl (cA .int, 10, .inl (fun _ => 0))), (q1, .inl (cA .int, 10, .inl (fun _ => 0))), (q2, .inl (cA .int, 40, .inl (fun _ => 0))), (q3, .inl (cA .int, 40, .inl (fun _ => 0))), (q4, .inl (cA .int, 40, .inl (fun _ => 0))), (q5, .inl (cA .int, 40, .inl (fun _ => 0))), (q6, .inl (cA .boolean, 40, .inl (fun _ => 0))), (q7, .inl (cA .int, 40, .inl (fun _ => 0))), (q8, .inl (cA .int, 40, .inl (fun _ => 0))), (q9, .inl (cA .int, 10, .inl (fun _ => 0))), (q10, .inl (cA .int, 576, .inl (fun _ => 0))), (q11, .inl (cA .int, 24, .inl (fun _ => 0))), (q12, .inl (cA .int, 24, .inl (fun _ => 0))), (q13, .inl (cA .int, 2, .inl (fun _ => 0))), (q14, .inl (cA .int, 80, .inl (fun _ => 0))), (q15, .inl (cA .boolean, 40, .inl (fun _ => 0))), (q16, .inl (cA .int, 80, .inl (fun _ => 0))), (q17, .inl (cA .int, 80, .inl (fun _ => 0))), (q18, .inl (cA .int, 800, .inl (fun _ => 0))), (q19, .inl (cA .int, 40, .inl (fun _ => 0)))] H := hP
  have hD : va_D A [(h0, .inr (4, [.int 0, .ref q0, .ref q1, .int 0, .ref q2, .ref q3, .ref q4, .ref q5, .ref q6, .int 0, .ref q7, .ref q8, .ref q9, .ref q10, .ref q11, .ref q12, .int 0, .int 0, .ref q13, .ref q14, .ref q15, .int 0, .ref q16, .ref q17, .ref q18, .ref q19, .null, .null, .null])), (q0, .inl (cA .int, 10, .inl (fun _ => 0))), (q1, .inl (cA .int, 10, .inl (fun _ => 0))), (q2, .inl (cA .int, 40, .inl (fun _ => 0))), (q3, .inl (cA .int, 40, .inl (fun _ => 0))), (q4, .inl (cA .int, 40, .inl (fun _ => 0))), (q5, .inl (cA .int, 40, .inl (fun _ => 0))), (q6, .inl (cA .boolean, 40, .inl (fun _ => 0))), (q7, .inl (cA .int, 40, .inl (fun _ => 0))), (q8, .inl (cA .int, 40, .inl (fun _ => 0))), (q9, .inl (cA .int, 10, .inl (fun _ => 0))), (q10, .inl (cA .int, 576, .inl (fun _ => 0))), (q11, .inl (cA .int, 24, .inl (fun _ => 0))), (q12, .inl (cA .int, 24, .inl (fun _ => 0))), (q13, .inl (cA .int, 2, .inl (fun _ => 0))), (q14, .inl (cA .int, 80, .inl (fun _ => 0))), (q15, .inl (cA .boolean, 40, .inl (fun _ => 0))), (q16, .inl (cA .int, 80, .inl (fun _ => 0))), (q17, .inl (cA .int, 80, .inl (fun _ => 0))), (q18, .inl (cA .int, 800, .inl (fun _ => 0))), (q19, .inl (cA .int, 40, .inl (fun _ => 0)))] := hD
  refine lv_aload_n hx hb (show decode prog_6_method_1_code 165 = .ok (.aload_n 0, 1) by decide +kernel) rfl (lv_at hl 0 rfl) ?_
  refine lv_bipush (v := 10) hx hb (show decode prog_6_method_1_code 166 = .ok (.bipush 10, 2) by decide +kernel) (by decide) ?_
  refine gx_na (cA := cA) hx hb (ty := .int) rfl (htb _ gx_aI) rfl (gx_raI hK) hK hP hD hS hA 10 (by decide) (by decide) (by decide) (Nat.le_of_ble_eq_true rfl) (Nat.le_of_ble_eq_true rfl) (show decode prog_6_method_1_code 168 = .ok (.newarray .int, 2) by decide +kernel) (fun q20 H hP hD hS => ?_)
  have hP : va_P D gx_cl [(h0, .inr (4, [.int 0, .ref q0, .ref q1, .int 0, .ref q2, .ref q3, .ref q4, .ref q5, .ref q6, .int 0, .ref q7, .ref q8, .ref q9, .ref q10, .ref q11, .ref q12, .int 0, .int 0, .ref q13, .ref q14, .ref q15, .int 0, .ref q16, .ref q17, .ref q18, .ref q19, .null, .null, .null])), (q0, .inl (cA .int, 10, .inl (fun _ => 0))), (q1, .inl (cA .int, 10, .inl (fun _ => 0))), (q2, .inl (cA .int, 40, .inl (fun _ => 0))), (q3, .inl (cA .int, 40, .inl (fun _ => 0))), (q4, .inl (cA .int, 40, .inl (fun _ => 0))), (q5, .inl (cA .int, 40, .inl (fun _ => 0))), (q6, .inl (cA .boolean, 40, .inl (fun _ => 0))), (q7, .inl (cA .int, 40, .inl (fun _ => 0))), (q8, .inl (cA .int, 40, .inl (fun _ => 0))), (q9, .inl (cA .int, 10, .inl (fun _ => 0))), (q10, .inl (cA .int, 576, .inl (fun _ => 0))), (q11, .inl (cA .int, 24, .inl (fun _ => 0))), (q12, .inl (cA .int, 24, .inl (fun _ => 0))), (q13, .inl (cA .int, 2, .inl (fun _ => 0))), (q14, .inl (cA .int, 80, .inl (fun _ => 0))), (q15, .inl (cA .boolean, 40, .inl (fun _ => 0))), (q16, .inl (cA .int, 80, .inl (fun _ => 0))), (q17, .inl (cA .int, 80, .inl (fun _ => 0))), (q18, .inl (cA .int, 800, .inl (fun _ => 0))), (q19, .inl (cA .int, 40, .inl (fun _ => 0))), (q20, .inl (cA .int, 10, .inl (fun _ => 0)))] H := hP
  have hD : va_D A [(h0, .inr (4, [.int 0, .ref q0, .ref q1, .int 0, .ref q2, .ref q3, .ref q4, .ref q5, .ref q6, .int 0, .ref q7, .ref q8, .ref q9, .ref q10, .ref q11, .ref q12, .int 0, .int 0, .ref q13, .ref q14, .ref q15, .int 0, .ref q16, .ref q17, .ref q18, .ref q19, .null, .null, .null])), (q0, .inl (cA .int, 10, .inl (fun _ => 0))), (q1, .inl (cA .int, 10, .inl (fun _ => 0))), (q2, .inl (cA .int, 40, .inl (fun _ => 0))), (q3, .inl (cA .int, 40, .inl (fun _ => 0))), (q4, .inl (cA .int, 40, .inl (fun _ => 0))), (q5, .inl (cA .int, 40, .inl (fun _ => 0))), (q6, .inl (cA .boolean, 40, .inl (fun _ => 0))), (q7, .inl (cA .int, 40, .inl (fun _ => 0))), (q8, .inl (cA .int, 40, .inl (fun _ => 0))), (q9, .inl (cA .int, 10, .inl (fun _ => 0))), (q10, .inl (cA .int, 576, .inl (fun _ => 0))), (q11, .inl (cA .int, 24, .inl (fun _ => 0))), (q12, .inl (cA .int, 24, .inl (fun _ => 0))), (q13, .inl (cA .int, 2, .inl (fun _ => 0))), (q14, .inl (cA .int, 80, .inl (fun _ => 0))), (q15, .inl (cA .boolean, 40, .inl (fun _ => 0))), (q16, .inl (cA .int, 80, .inl (fun _ => 0))), (q17, .inl (cA .int, 80, .inl (fun _ => 0))), (q18, .inl (cA .int, 800, .inl (fun _ => 0))), (q19, .inl (cA .int, 40, .inl (fun _ => 0))), (q20, .inl (cA .int, 10, .inl (fun _ => 0)))] := hD
  refine W.cs (cells' := 21) (slots' := 2066) rfl rfl ?_
  refine va_putF (D := D) (ci := 4) (v := .ref q20) (ty := .array .int) (C := gR4) (T := gT4) (N := 29) hx hb htb gx_lay4 gY4 gY4_ok gN4 hown hK hP hD hS 0 rfl rfl 26 (by decide) (htb _ (show Cond.fieldLink gR4 71 "GreatestFlowModel" "give" "[I" ∈ gx_TBL from gx_in2 237 rfl rfl)) (fun _ h9 => h9) rfl hin rfl (by decide +kernel) rfl rfl (Nat.le_of_ble_eq_true rfl) (show decode prog_6_method_1_code 170 = .ok (.putfield 71, 3) by decide +kernel) (fun H locs hP hD hS => ?_)
  have hP : va_P D gx_cl [(h0, .inr (4, [.int 0, .ref q0, .ref q1, .int 0, .ref q2, .ref q3, .ref q4, .ref q5, .ref q6, .int 0, .ref q7, .ref q8, .ref q9, .ref q10, .ref q11, .ref q12, .int 0, .int 0, .ref q13, .ref q14, .ref q15, .int 0, .ref q16, .ref q17, .ref q18, .ref q19, .ref q20, .null, .null])), (q0, .inl (cA .int, 10, .inl (fun _ => 0))), (q1, .inl (cA .int, 10, .inl (fun _ => 0))), (q2, .inl (cA .int, 40, .inl (fun _ => 0))), (q3, .inl (cA .int, 40, .inl (fun _ => 0))), (q4, .inl (cA .int, 40, .inl (fun _ => 0))), (q5, .inl (cA .int, 40, .inl (fun _ => 0))), (q6, .inl (cA .boolean, 40, .inl (fun _ => 0))), (q7, .inl (cA .int, 40, .inl (fun _ => 0))), (q8, .inl (cA .int, 40, .inl (fun _ => 0))), (q9, .inl (cA .int, 10, .inl (fun _ => 0))), (q10, .inl (cA .int, 576, .inl (fun _ => 0))), (q11, .inl (cA .int, 24, .inl (fun _ => 0))), (q12, .inl (cA .int, 24, .inl (fun _ => 0))), (q13, .inl (cA .int, 2, .inl (fun _ => 0))), (q14, .inl (cA .int, 80, .inl (fun _ => 0))), (q15, .inl (cA .boolean, 40, .inl (fun _ => 0))), (q16, .inl (cA .int, 80, .inl (fun _ => 0))), (q17, .inl (cA .int, 80, .inl (fun _ => 0))), (q18, .inl (cA .int, 800, .inl (fun _ => 0))), (q19, .inl (cA .int, 40, .inl (fun _ => 0))), (q20, .inl (cA .int, 10, .inl (fun _ => 0)))] H := hP
  have hD : va_D A [(h0, .inr (4, [.int 0, .ref q0, .ref q1, .int 0, .ref q2, .ref q3, .ref q4, .ref q5, .ref q6, .int 0, .ref q7, .ref q8, .ref q9, .ref q10, .ref q11, .ref q12, .int 0, .int 0, .ref q13, .ref q14, .ref q15, .int 0, .ref q16, .ref q17, .ref q18, .ref q19, .ref q20, .null, .null])), (q0, .inl (cA .int, 10, .inl (fun _ => 0))), (q1, .inl (cA .int, 10, .inl (fun _ => 0))), (q2, .inl (cA .int, 40, .inl (fun _ => 0))), (q3, .inl (cA .int, 40, .inl (fun _ => 0))), (q4, .inl (cA .int, 40, .inl (fun _ => 0))), (q5, .inl (cA .int, 40, .inl (fun _ => 0))), (q6, .inl (cA .boolean, 40, .inl (fun _ => 0))), (q7, .inl (cA .int, 40, .inl (fun _ => 0))), (q8, .inl (cA .int, 40, .inl (fun _ => 0))), (q9, .inl (cA .int, 10, .inl (fun _ => 0))), (q10, .inl (cA .int, 576, .inl (fun _ => 0))), (q11, .inl (cA .int, 24, .inl (fun _ => 0))), (q12, .inl (cA .int, 24, .inl (fun _ => 0))), (q13, .inl (cA .int, 2, .inl (fun _ => 0))), (q14, .inl (cA .int, 80, .inl (fun _ => 0))), (q15, .inl (cA .boolean, 40, .inl (fun _ => 0))), (q16, .inl (cA .int, 80, .inl (fun _ => 0))), (q17, .inl (cA .int, 80, .inl (fun _ => 0))), (q18, .inl (cA .int, 800, .inl (fun _ => 0))), (q19, .inl (cA .int, 40, .inl (fun _ => 0))), (q20, .inl (cA .int, 10, .inl (fun _ => 0)))] := hD
  refine lv_aload_n hx hb (show decode prog_6_method_1_code 173 = .ok (.aload_n 0, 1) by decide +kernel) rfl (lv_at hl 0 rfl) ?_
  refine lv_bipush (v := 12) hx hb (show decode prog_6_method_1_code 174 = .ok (.bipush 12, 2) by decide +kernel) (by decide) ?_
  refine gx_na (cA := cA) hx hb (ty := .int) rfl (htb _ gx_aI) rfl (gx_raI hK) hK hP hD hS hA 12 (by decide) (by decide) (by decide) (Nat.le_of_ble_eq_true rfl) (Nat.le_of_ble_eq_true rfl) (show decode prog_6_method_1_code 176 = .ok (.newarray .int, 2) by decide +kernel) (fun q21 H hP hD hS => ?_)
  have hP : va_P D gx_cl [(h0, .inr (4, [.int 0, .ref q0, .ref q1, .int 0, .ref q2, .ref q3, .ref q4, .ref q5, .ref q6, .int 0, .ref q7, .ref q8, .ref q9, .ref q10, .ref q11, .ref q12, .int 0, .int 0, .ref q13, .ref q14, .ref q15, .int 0, .ref q16, .ref q17, .ref q18, .ref q19, .ref q20, .null, .null])), (q0, .inl (cA .int, 10, .inl (fun _ => 0))), (q1, .inl (cA .int, 10, .inl (fun _ => 0))), (q2, .inl (cA .int, 40, .inl (fun _ => 0))), (q3, .inl (cA .int, 40, .inl (fun _ => 0))), (q4, .inl (cA .int, 40, .inl (fun _ => 0))), (q5, .inl (cA .int, 40, .inl (fun _ => 0))), (q6, .inl (cA .boolean, 40, .inl (fun _ => 0))), (q7, .inl (cA .int, 40, .inl (fun _ => 0))), (q8, .inl (cA .int, 40, .inl (fun _ => 0))), (q9, .inl (cA .int, 10, .inl (fun _ => 0))), (q10, .inl (cA .int, 576, .inl (fun _ => 0))), (q11, .inl (cA .int, 24, .inl (fun _ => 0))), (q12, .inl (cA .int, 24, .inl (fun _ => 0))), (q13, .inl (cA .int, 2, .inl (fun _ => 0))), (q14, .inl (cA .int, 80, .inl (fun _ => 0))), (q15, .inl (cA .boolean, 40, .inl (fun _ => 0))), (q16, .inl (cA .int, 80, .inl (fun _ => 0))), (q17, .inl (cA .int, 80, .inl (fun _ => 0))), (q18, .inl (cA .int, 800, .inl (fun _ => 0))), (q19, .inl (cA .int, 40, .inl (fun _ => 0))), (q20, .inl (cA .int, 10, .inl (fun _ => 0))), (q21, .inl (cA .int, 12, .inl (fun _ => 0)))] H := hP
  have hD : va_D A [(h0, .inr (4, [.int 0, .ref q0, .ref q1, .int 0, .ref q2, .ref q3, .ref q4, .ref q5, .ref q6, .int 0, .ref q7, .ref q8, .ref q9, .ref q10, .ref q11, .ref q12, .int 0, .int 0, .ref q13, .ref q14, .ref q15, .int 0, .ref q16, .ref q17, .ref q18, .ref q19, .ref q20, .null, .null])), (q0, .inl (cA .int, 10, .inl (fun _ => 0))), (q1, .inl (cA .int, 10, .inl (fun _ => 0))), (q2, .inl (cA .int, 40, .inl (fun _ => 0))), (q3, .inl (cA .int, 40, .inl (fun _ => 0))), (q4, .inl (cA .int, 40, .inl (fun _ => 0))), (q5, .inl (cA .int, 40, .inl (fun _ => 0))), (q6, .inl (cA .boolean, 40, .inl (fun _ => 0))), (q7, .inl (cA .int, 40, .inl (fun _ => 0))), (q8, .inl (cA .int, 40, .inl (fun _ => 0))), (q9, .inl (cA .int, 10, .inl (fun _ => 0))), (q10, .inl (cA .int, 576, .inl (fun _ => 0))), (q11, .inl (cA .int, 24, .inl (fun _ => 0))), (q12, .inl (cA .int, 24, .inl (fun _ => 0))), (q13, .inl (cA .int, 2, .inl (fun _ => 0))), (q14, .inl (cA .int, 80, .inl (fun _ => 0))), (q15, .inl (cA .boolean, 40, .inl (fun _ => 0))), (q16, .inl (cA .int, 80, .inl (fun _ => 0))), (q17, .inl (cA .int, 80, .inl (fun _ => 0))), (q18, .inl (cA .int, 800, .inl (fun _ => 0))), (q19, .inl (cA .int, 40, .inl (fun _ => 0))), (q20, .inl (cA .int, 10, .inl (fun _ => 0))), (q21, .inl (cA .int, 12, .inl (fun _ => 0)))] := hD
  refine W.cs (cells' := 22) (slots' := 2078) rfl rfl ?_
  refine va_putF (D := D) (ci := 4) (v := .ref q21) (ty := .array .int) (C := gR4) (T := gT4) (N := 29) hx hb htb gx_lay4 gY4 gY4_ok gN4 hown hK hP hD hS 0 rfl rfl 27 (by decide) (htb _ (show Cond.fieldLink gR4 74 "GreatestFlowModel" "path" "[I" ∈ gx_TBL from gx_in2 238 rfl rfl)) (fun _ h9 => h9) rfl hin rfl (by decide +kernel) rfl rfl (Nat.le_of_ble_eq_true rfl) (show decode prog_6_method_1_code 178 = .ok (.putfield 74, 3) by decide +kernel) (fun H locs hP hD hS => ?_)
  have hP : va_P D gx_cl [(h0, .inr (4, [.int 0, .ref q0, .ref q1, .int 0, .ref q2, .ref q3, .ref q4, .ref q5, .ref q6, .int 0, .ref q7, .ref q8, .ref q9, .ref q10, .ref q11, .ref q12, .int 0, .int 0, .ref q13, .ref q14, .ref q15, .int 0, .ref q16, .ref q17, .ref q18, .ref q19, .ref q20, .ref q21, .null])), (q0, .inl (cA .int, 10, .inl (fun _ => 0))), (q1, .inl (cA .int, 10, .inl (fun _ => 0))), (q2, .inl (cA .int, 40, .inl (fun _ => 0))), (q3, .inl (cA .int, 40, .inl (fun _ => 0))), (q4, .inl (cA .int, 40, .inl (fun _ => 0))), (q5, .inl (cA .int, 40, .inl (fun _ => 0))), (q6, .inl (cA .boolean, 40, .inl (fun _ => 0))), (q7, .inl (cA .int, 40, .inl (fun _ => 0))), (q8, .inl (cA .int, 40, .inl (fun _ => 0))), (q9, .inl (cA .int, 10, .inl (fun _ => 0))), (q10, .inl (cA .int, 576, .inl (fun _ => 0))), (q11, .inl (cA .int, 24, .inl (fun _ => 0))), (q12, .inl (cA .int, 24, .inl (fun _ => 0))), (q13, .inl (cA .int, 2, .inl (fun _ => 0))), (q14, .inl (cA .int, 80, .inl (fun _ => 0))), (q15, .inl (cA .boolean, 40, .inl (fun _ => 0))), (q16, .inl (cA .int, 80, .inl (fun _ => 0))), (q17, .inl (cA .int, 80, .inl (fun _ => 0))), (q18, .inl (cA .int, 800, .inl (fun _ => 0))), (q19, .inl (cA .int, 40, .inl (fun _ => 0))), (q20, .inl (cA .int, 10, .inl (fun _ => 0))), (q21, .inl (cA .int, 12, .inl (fun _ => 0)))] H := hP
  have hD : va_D A [(h0, .inr (4, [.int 0, .ref q0, .ref q1, .int 0, .ref q2, .ref q3, .ref q4, .ref q5, .ref q6, .int 0, .ref q7, .ref q8, .ref q9, .ref q10, .ref q11, .ref q12, .int 0, .int 0, .ref q13, .ref q14, .ref q15, .int 0, .ref q16, .ref q17, .ref q18, .ref q19, .ref q20, .ref q21, .null])), (q0, .inl (cA .int, 10, .inl (fun _ => 0))), (q1, .inl (cA .int, 10, .inl (fun _ => 0))), (q2, .inl (cA .int, 40, .inl (fun _ => 0))), (q3, .inl (cA .int, 40, .inl (fun _ => 0))), (q4, .inl (cA .int, 40, .inl (fun _ => 0))), (q5, .inl (cA .int, 40, .inl (fun _ => 0))), (q6, .inl (cA .boolean, 40, .inl (fun _ => 0))), (q7, .inl (cA .int, 40, .inl (fun _ => 0))), (q8, .inl (cA .int, 40, .inl (fun _ => 0))), (q9, .inl (cA .int, 10, .inl (fun _ => 0))), (q10, .inl (cA .int, 576, .inl (fun _ => 0))), (q11, .inl (cA .int, 24, .inl (fun _ => 0))), (q12, .inl (cA .int, 24, .inl (fun _ => 0))), (q13, .inl (cA .int, 2, .inl (fun _ => 0))), (q14, .inl (cA .int, 80, .inl (fun _ => 0))), (q15, .inl (cA .boolean, 40, .inl (fun _ => 0))), (q16, .inl (cA .int, 80, .inl (fun _ => 0))), (q17, .inl (cA .int, 80, .inl (fun _ => 0))), (q18, .inl (cA .int, 800, .inl (fun _ => 0))), (q19, .inl (cA .int, 40, .inl (fun _ => 0))), (q20, .inl (cA .int, 10, .inl (fun _ => 0))), (q21, .inl (cA .int, 12, .inl (fun _ => 0)))] := hD
  refine lv_aload_n hx hb (show decode prog_6_method_1_code 181 = .ok (.aload_n 0, 1) by decide +kernel) rfl (lv_at hl 0 rfl) ?_
  refine lv_bipush (v := 10) hx hb (show decode prog_6_method_1_code 182 = .ok (.bipush 10, 2) by decide +kernel) (by decide) ?_
  refine gx_na (cA := cA) hx hb (ty := .int) rfl (htb _ gx_aI) rfl (gx_raI hK) hK hP hD hS hA 10 (by decide) (by decide) (by decide) (Nat.le_of_ble_eq_true rfl) (Nat.le_of_ble_eq_true rfl) (show decode prog_6_method_1_code 184 = .ok (.newarray .int, 2) by decide +kernel) (fun q22 H hP hD hS => ?_)
  have hP : va_P D gx_cl [(h0, .inr (4, [.int 0, .ref q0, .ref q1, .int 0, .ref q2, .ref q3, .ref q4, .ref q5, .ref q6, .int 0, .ref q7, .ref q8, .ref q9, .ref q10, .ref q11, .ref q12, .int 0, .int 0, .ref q13, .ref q14, .ref q15, .int 0, .ref q16, .ref q17, .ref q18, .ref q19, .ref q20, .ref q21, .null])), (q0, .inl (cA .int, 10, .inl (fun _ => 0))), (q1, .inl (cA .int, 10, .inl (fun _ => 0))), (q2, .inl (cA .int, 40, .inl (fun _ => 0))), (q3, .inl (cA .int, 40, .inl (fun _ => 0))), (q4, .inl (cA .int, 40, .inl (fun _ => 0))), (q5, .inl (cA .int, 40, .inl (fun _ => 0))), (q6, .inl (cA .boolean, 40, .inl (fun _ => 0))), (q7, .inl (cA .int, 40, .inl (fun _ => 0))), (q8, .inl (cA .int, 40, .inl (fun _ => 0))), (q9, .inl (cA .int, 10, .inl (fun _ => 0))), (q10, .inl (cA .int, 576, .inl (fun _ => 0))), (q11, .inl (cA .int, 24, .inl (fun _ => 0))), (q12, .inl (cA .int, 24, .inl (fun _ => 0))), (q13, .inl (cA .int, 2, .inl (fun _ => 0))), (q14, .inl (cA .int, 80, .inl (fun _ => 0))), (q15, .inl (cA .boolean, 40, .inl (fun _ => 0))), (q16, .inl (cA .int, 80, .inl (fun _ => 0))), (q17, .inl (cA .int, 80, .inl (fun _ => 0))), (q18, .inl (cA .int, 800, .inl (fun _ => 0))), (q19, .inl (cA .int, 40, .inl (fun _ => 0))), (q20, .inl (cA .int, 10, .inl (fun _ => 0))), (q21, .inl (cA .int, 12, .inl (fun _ => 0))), (q22, .inl (cA .int, 10, .inl (fun _ => 0)))] H := hP
  have hD : va_D A [(h0, .inr (4, [.int 0, .ref q0, .ref q1, .int 0, .ref q2, .ref q3, .ref q4, .ref q5, .ref q6, .int 0, .ref q7, .ref q8, .ref q9, .ref q10, .ref q11, .ref q12, .int 0, .int 0, .ref q13, .ref q14, .ref q15, .int 0, .ref q16, .ref q17, .ref q18, .ref q19, .ref q20, .ref q21, .null])), (q0, .inl (cA .int, 10, .inl (fun _ => 0))), (q1, .inl (cA .int, 10, .inl (fun _ => 0))), (q2, .inl (cA .int, 40, .inl (fun _ => 0))), (q3, .inl (cA .int, 40, .inl (fun _ => 0))), (q4, .inl (cA .int, 40, .inl (fun _ => 0))), (q5, .inl (cA .int, 40, .inl (fun _ => 0))), (q6, .inl (cA .boolean, 40, .inl (fun _ => 0))), (q7, .inl (cA .int, 40, .inl (fun _ => 0))), (q8, .inl (cA .int, 40, .inl (fun _ => 0))), (q9, .inl (cA .int, 10, .inl (fun _ => 0))), (q10, .inl (cA .int, 576, .inl (fun _ => 0))), (q11, .inl (cA .int, 24, .inl (fun _ => 0))), (q12, .inl (cA .int, 24, .inl (fun _ => 0))), (q13, .inl (cA .int, 2, .inl (fun _ => 0))), (q14, .inl (cA .int, 80, .inl (fun _ => 0))), (q15, .inl (cA .boolean, 40, .inl (fun _ => 0))), (q16, .inl (cA .int, 80, .inl (fun _ => 0))), (q17, .inl (cA .int, 80, .inl (fun _ => 0))), (q18, .inl (cA .int, 800, .inl (fun _ => 0))), (q19, .inl (cA .int, 40, .inl (fun _ => 0))), (q20, .inl (cA .int, 10, .inl (fun _ => 0))), (q21, .inl (cA .int, 12, .inl (fun _ => 0))), (q22, .inl (cA .int, 10, .inl (fun _ => 0)))] := hD
  refine W.cs (cells' := 23) (slots' := 2088) rfl rfl ?_
  refine va_putF (D := D) (ci := 4) (v := .ref q22) (ty := .array .int) (C := gR4) (T := gT4) (N := 29) hx hb htb gx_lay4 gY4 gY4_ok gN4 hown hK hP hD hS 0 rfl rfl 28 (by decide) (htb _ (show Cond.fieldLink gR4 77 "GreatestFlowModel" "placeOf" "[I" ∈ gx_TBL from gx_in2 239 rfl rfl)) (fun _ h9 => h9) rfl hin rfl (by decide +kernel) rfl rfl (Nat.le_of_ble_eq_true rfl) (show decode prog_6_method_1_code 186 = .ok (.putfield 77, 3) by decide +kernel) (fun H locs hP hD hS => ?_)
  have hP : va_P D gx_cl [(h0, .inr (4, [.int 0, .ref q0, .ref q1, .int 0, .ref q2, .ref q3, .ref q4, .ref q5, .ref q6, .int 0, .ref q7, .ref q8, .ref q9, .ref q10, .ref q11, .ref q12, .int 0, .int 0, .ref q13, .ref q14, .ref q15, .int 0, .ref q16, .ref q17, .ref q18, .ref q19, .ref q20, .ref q21, .ref q22])), (q0, .inl (cA .int, 10, .inl (fun _ => 0))), (q1, .inl (cA .int, 10, .inl (fun _ => 0))), (q2, .inl (cA .int, 40, .inl (fun _ => 0))), (q3, .inl (cA .int, 40, .inl (fun _ => 0))), (q4, .inl (cA .int, 40, .inl (fun _ => 0))), (q5, .inl (cA .int, 40, .inl (fun _ => 0))), (q6, .inl (cA .boolean, 40, .inl (fun _ => 0))), (q7, .inl (cA .int, 40, .inl (fun _ => 0))), (q8, .inl (cA .int, 40, .inl (fun _ => 0))), (q9, .inl (cA .int, 10, .inl (fun _ => 0))), (q10, .inl (cA .int, 576, .inl (fun _ => 0))), (q11, .inl (cA .int, 24, .inl (fun _ => 0))), (q12, .inl (cA .int, 24, .inl (fun _ => 0))), (q13, .inl (cA .int, 2, .inl (fun _ => 0))), (q14, .inl (cA .int, 80, .inl (fun _ => 0))), (q15, .inl (cA .boolean, 40, .inl (fun _ => 0))), (q16, .inl (cA .int, 80, .inl (fun _ => 0))), (q17, .inl (cA .int, 80, .inl (fun _ => 0))), (q18, .inl (cA .int, 800, .inl (fun _ => 0))), (q19, .inl (cA .int, 40, .inl (fun _ => 0))), (q20, .inl (cA .int, 10, .inl (fun _ => 0))), (q21, .inl (cA .int, 12, .inl (fun _ => 0))), (q22, .inl (cA .int, 10, .inl (fun _ => 0)))] H := hP
  have hD : va_D A [(h0, .inr (4, [.int 0, .ref q0, .ref q1, .int 0, .ref q2, .ref q3, .ref q4, .ref q5, .ref q6, .int 0, .ref q7, .ref q8, .ref q9, .ref q10, .ref q11, .ref q12, .int 0, .int 0, .ref q13, .ref q14, .ref q15, .int 0, .ref q16, .ref q17, .ref q18, .ref q19, .ref q20, .ref q21, .ref q22])), (q0, .inl (cA .int, 10, .inl (fun _ => 0))), (q1, .inl (cA .int, 10, .inl (fun _ => 0))), (q2, .inl (cA .int, 40, .inl (fun _ => 0))), (q3, .inl (cA .int, 40, .inl (fun _ => 0))), (q4, .inl (cA .int, 40, .inl (fun _ => 0))), (q5, .inl (cA .int, 40, .inl (fun _ => 0))), (q6, .inl (cA .boolean, 40, .inl (fun _ => 0))), (q7, .inl (cA .int, 40, .inl (fun _ => 0))), (q8, .inl (cA .int, 40, .inl (fun _ => 0))), (q9, .inl (cA .int, 10, .inl (fun _ => 0))), (q10, .inl (cA .int, 576, .inl (fun _ => 0))), (q11, .inl (cA .int, 24, .inl (fun _ => 0))), (q12, .inl (cA .int, 24, .inl (fun _ => 0))), (q13, .inl (cA .int, 2, .inl (fun _ => 0))), (q14, .inl (cA .int, 80, .inl (fun _ => 0))), (q15, .inl (cA .boolean, 40, .inl (fun _ => 0))), (q16, .inl (cA .int, 80, .inl (fun _ => 0))), (q17, .inl (cA .int, 80, .inl (fun _ => 0))), (q18, .inl (cA .int, 800, .inl (fun _ => 0))), (q19, .inl (cA .int, 40, .inl (fun _ => 0))), (q20, .inl (cA .int, 10, .inl (fun _ => 0))), (q21, .inl (cA .int, 12, .inl (fun _ => 0))), (q22, .inl (cA .int, 10, .inl (fun _ => 0)))] := hD
  exact W.vret hx hb hr (fun t ht hW => ⟨⟨(fun i => [q0, q1, q2, q3, q4, q5, q6, q7, q8, q9, q10, q11, q12, q13, q14, q15, q16, q17, q18, q19, q20, q21, q22].getD i 0), rfl, trivial, by rw [ht]; exact hP, va_K.moved hW.alike hK, hD⟩, hS.F ht⟩) hS.2.2 (show decode prog_6_method_1_code 189 = .ok (.return_, 1) by decide +kernel)
end
section
/-! GreatestFlow(): printed by wip/genctor.py. -/
theorem gx_goodC {big : List Cond} {y : MethodName} {code : ByteArray} {n : Nat} {ret : Option FieldType} (h : Cond.code y code n ret ∈ gx_TBL) (hb : ∀ w ∈ gx_TBL, w ∈ big) : GoodIn big (.code y code n ret :: gx_TBL) := fun w hw => by
  have h1 : w ∈ gx_TBL := (List.mem_cons.mp hw).elim (fun e => e ▸ h) id
  exact ⟨hb w h1, good_of_word (gx_good w h1)⟩
theorem va_AOA.moved {ty : FieldType} {u U : State} (hvm : u.vm.Alike U.vm) (h : va_AOA ty u) : va_AOA ty U := by
  unfold va_AOA Cond.before Cond.holds at h
  simp only [Cond.value, beq_iff_eq] at h
  cases hc : u.vm.findClass (FieldType.array ty).toString with
  | none => simp [hc] at h
  | some comp =>
    simp only [hc, Option.bind_some, Option.bind_eq_some_iff, Option.map_eq_some_iff] at h
    obtain ⟨k, hi0, kc, hk, hbb⟩ := h
    have hi : (U.vm.classes.findIdx? fun (x : Class) => match x.kind with | .array component _ => component == comp | _ => false) = some k := by
      have b1 : U.vm.bare = u.vm.bare := by first | exact hvm.bare_eq | exact hvm.bare_eq.symm
      have e1 := va_idx_bare U.vm comp
      have e2 := va_idx_bare u.vm comp
      rw [b1] at e1
      exact (e1.symm.trans e2).trans hi0
    obtain ⟨k1, hk1, he⟩ := hvm.2.2 _ _ hk
    have hkind : k1.kind = kc.kind := by rw [he]
    have f1 : U.vm.findClass (FieldType.array ty).toString = some comp := by rw [hvm.findClass]; exact hc
    unfold va_AOA Cond.before Cond.holds
    simp only [Cond.value]
    rw [f1, Option.bind_some]
    refine (congrArg (fun o : Option Nat => (o.bind (fun c => (U.vm.classes[c]?).map fun (k : Class) => match k.kind with | .array _ t1 => decide (t1 = FieldType.array ty) && decide (U.vm.findClass ("[" ++ (FieldType.array ty).toString) = some c) | _ => false) == some true)) hi).trans ?_
    simp only [Option.bind_some, hk1, Option.map_some, hkind, beq_iff_eq, Option.some.injEq]
    rw [hvm.findClass]
    exact hbb
/-- what the constructor of the whole needs beside the words: three private constructors of nested kinds, an array of arrays -/
def gx_N4 (U : State) : Prop := va_Nw (.methodLinkNest gR3 11 gy_Graph "GreatestFlow") U ∧ va_Nw (.methodLinkNest gR3 18 gy_Net "GreatestFlow") U ∧ va_Nw (.methodLinkNest gR3 25 gy_Parts "GreatestFlow") U ∧ va_AOA .int U
theorem gx_N4.moved {u U : State} (hW : u.WarmedH U.vm) (h : gx_N4 u) : gx_N4 U := ⟨va_Nw.warmM hW h.1, va_Nw.warmM hW h.2.1, va_Nw.warmM hW h.2.2.1, va_AOA.moved hW.alike h.2.2.2⟩
theorem gx_N4.call {U : State} {g : JFrame} {mk : MethodId} {a : Array Value} (h : gx_N4 U) : gx_N4 (U.calling g mk a) := ⟨va_Nw.same rfl rfl h.1, va_Nw.same rfl rfl h.2.1, va_Nw.same rfl rfl h.2.2.1, va_AOA.moved (Vm.Alike.refl U.vm) h.2.2.2⟩
theorem gx_row2 {r : Nat → Nat} : (fun i => if i < 2 then some (r i) else none) = fun i : Nat => ([r 0, r 1] : List Nat)[i]? := by
  funext i
  match i with
  | 0 => rfl
  | 1 => rfl
  | k + 2 => simp
def gy_Flow : MethodName := ⟨"GreatestFlow", "<init>", "()V"⟩
def gw_Flow : List Cond := .code gy_Flow prog_1_method_1_code 1 none :: gx_TBL
theorem gw_Flow_in : Cond.code gy_Flow prog_1_method_1_code 1 none ∈ gx_TBL := gx_in1 13 rfl rfl
/-- the cells behind GreatestFlow() -/
abbrev gz_Flow (cA : FieldType → ClassId) (h0 : Nat) (u : Nat → Nat) : va_W := [(h0, .inr (3, [.ref (u 0), .ref (u 1), .ref (u 2), .ref (u 3), .ref (u 4), .ref (u 7), .ref (u 8), .int 0, .int 0, .int 0, .int 0, .int 0])), (u 0, .inr (0, [.ref (u 10), .ref (u 11), .ref (u 12), .ref (u 13), .ref (u 14), .ref (u 15), .ref (u 16), .int 0, .int 0, .int 0])), (u 10, .inl (cA .int, 10, .inl (fun _ => 0))), (u 11, .inl (cA .int, 10, .inl (fun _ => 0))), (u 12, .inl (cA .int, 40, .inl (fun _ => 0))), (u 13, .inl (cA .int, 40, .inl (fun _ => 0))), (u 14, .inl (cA .int, 40, .inl (fun _ => 0))), (u 15, .inl (cA .int, 40, .inl (fun _ => 0))), (u 16, .inl (cA .boolean, 40, .inl (fun _ => 0))), (u 1, .inr (1, [.ref (u 20), .ref (u 21), .ref (u 22), .ref (u 23), .ref (u 24), .ref (u 25), .ref (u 26), .ref (u 27), .ref (u 28), .ref (u 29)])), (u 20, .inl (cA .int, 61, .inl (fun _ => 0))), (u 21, .inl (cA .int, 61, .inl (fun _ => 0))), (u 22, .inl (cA .int, 61, .inl (fun _ => 0))), (u 23, .inl (cA .int, 61, .inl (fun _ => 0))), (u 24, .inl (cA .int, 61, .inl (fun _ => 0))), (u 25, .inl (cA .boolean, 61, .inl (fun _ => 0))), (u 26, .inl (cA .int, 924, .inl (fun _ => 0))), (u 27, .inl (cA .int, 22, .inl (fun _ => 0))), (u 28, .inl (cA .int, 22, .inl (fun _ => 0))), (u 29, .inl (cA .int, 22, .inl (fun _ => 0))), (u 2, .inr (2, [.ref (u 40), .ref (u 41), .int 0, .ref (u 42), .ref (u 43), .ref (u 44), .ref (u 45), .ref (u 46)])), (u 40, .inl (cA .int, 50, .inl (fun _ => 0))), (u 41, .inl (cA .int, 50, .inl (fun _ => 0))), (u 42, .inl (cA .int, 500, .inl (fun _ => 0))), (u 43, .inl (cA .int, 40, .inl (fun _ => 0))), (u 44, .inl (cA .int, 10, .inl (fun _ => 0))), (u 45, .inl (cA .int, 10, .inl (fun _ => 0))), (u 46, .inl (cA .int, 10, .inl (fun _ => 0))), (u 3, .inl (cA .int, 61, .inl (fun _ => 0))), (u 4, .inl (cA (.array .int), 2, .inr (.inr (.inr (.inr (fun i : Nat => ([u 5, u 6] : List Nat)[i]?)))))), (u 5, .inl (cA .int, 61, .inl (fun _ => 0))), (u 6, .inl (cA .int, 61, .inl (fun _ => 0))), (u 7, .inl (cA .boolean, 2, .inl (fun _ => 0))), (u 8, .inl (cA .int, 40, .inl (fun _ => 0)))]
set_option maxHeartbeats 4000000 in
set_option maxRecDepth 100000 in
theorem gc_Flow (l : Launch) (D : va_G) (cA : FieldType → ClassId) (h0 sz : Nat) : Met l gy_Flow gw_Flow ({ frames := 2, cells := 33, slots := 2501, locals := 32 }) (va_Pc [.ref h0] (fun U => U.heap.size = sz ∧ va_P D gx_cl [(h0, .inr (3, [.null, .null, .null, .null, .null, .null, .null, .int 0, .int 0, .int 0, .int 0, .int 0]))] U.heap ∧ va_K D gx_cl (gx_tys cA) U ∧ va_D (fun _ => True) [(h0, .inr (3, [.null, .null, .null, .null, .null, .null, .null, .int 0, .int 0, .int 0, .int 0, .int 0]))] ∧ gx_N4 U)) (va_Qv (fun _ : Nat → Nat => True) (fun u t => va_P D gx_cl (gz_Flow cA h0 u) t.heap ∧ va_K D gx_cl (gx_tys cA) t ∧ va_D (va_A [(h0, .inr (3, [.null, .null, .null, .null, .null, .null, .null, .int 0, .int 0, .int 0, .int 0, .int 0]))] sz) (gz_Flow cA h0 u)) (va_A [(h0, .inr (3, [.null, .null, .null, .null, .null, .null, .null, .int 0, .int 0, .int 0, .int 0, .int 0]))] sz)) 33 2501 (va_A [(h0, .inr (3, [.null, .null, .null, .null, .null, .null, .null, .int 0, .int 0, .int 0, .int 0, .int 0]))] sz) := by
  refine Met.ofW (cc := prog_1_method_1_code) (maxL := 1) (ret := none) (by decide) rfl ?_
  intro p e s m args below meth c s₁ B hml hv
  obtain ⟨rfl, hsz, hP, hK, hD0, hN4⟩ := hv
  have hx := B.exec
  have hb := B.bytes
  have hr := B.returns
  have hts := atoms_spec (ws := gw_Flow) B.pre
  have htb : ∀ w ∈ gx_TBL, w.before #[Value.ref h0] s = true := fun w hw => hts w (List.mem_cons_of_mem _ hw)
  have hown : s.vm.findClass gR3 = some m.cls := findClass_of_methodNamed B.named
  have hlocks := B.notSynchronized
  have hin : meth.name = "<init>" := (name_of_methodNamed B.named B.method).1
  subst hsz
  have hD := hD0.self (sz := s.heap.size)
  generalize hAe : va_A [(h0, .inr (3, [.null, .null, .null, .null, .null, .null, .null, .int 0, .int 0, .int 0, .int 0, .int 0]))] s.heap.size = A at hD ⊢
  have hA : ∀ q : Nat, s.heap.size ≤ q → A q := fun q h => by rw [← hAe]; exact Or.inr h
  have hS : va_S A s.heap s.heap [] := va_S.rf
  have hl := lv_entry ([.ref h0]) (n := 1) (Nat.le_of_ble_eq_true rfl)
  rw [lg_entry_eq]
  generalize (lg_sl ([.ref h0]) ++ List.replicate (1 - (lg_sl ([.ref h0])).length) Slot.unset).toArray = ls at hl ⊢
  have hl : lv_has ls 1 [(0, .ref h0)] := hl
  refine lv_aload_n hx hb (show decode prog_1_method_1_code 0 = .ok (.aload_n 0, 1) by decide +kernel) rfl (lv_at hl 0 rfl) ?_
  refine W.objInit hx hb hown (htb _ (show Cond.methodLink gR3 3 objectInit ∈ gx_TBL from gx_in1 14 rfl rfl)) (htb _ gx_oi) (htb _ gx_oc) rfl (by rw [hml]; exact hl.1) rfl (show decode prog_1_method_1_code 1 = .ok (.invokespecial 3, 3) by decide +kernel) (Nat.le_of_ble_eq_true rfl) (Nat.le_of_ble_eq_true rfl) ?_
  refine W.eq (g2 := F0 m 4 ls []) rfl ?_
  refine lv_aload_n hx hb (show decode prog_1_method_1_code 4 = .ok (.aload_n 0, 1) by decide +kernel) rfl (lv_at hl 0 rfl) ?_
  refine va_new (ci := 0) (fs := [.null, .null, .null, .null, .null, .null, .null, .int 0, .int 0, .int 0]) (C := gR0) (T := gT0) (N := 10) hx hb htb gx_lay0 gY0 gY0_ok hown (htb _ (show Cond.classLink gR3 9 gR0 ∈ gx_TBL from gx_in1 17 rfl rfl)) (htb _ (show Cond.instantiable gR0 10 ∈ gx_TBL from gx_in1 18 rfl rfl)) (htb _ (show Cond.initialized gR0 ∈ gx_TBL from gx_in1 2 rfl rfl)) hK hP hD hS hA rfl (fun j hj => by rcases (show j = 0 ∨ j = 1 ∨ j = 2 ∨ j = 3 ∨ j = 4 ∨ j = 5 ∨ j = 6 ∨ j = 7 ∨ j = 8 ∨ j = 9 by omega) with rfl | rfl | rfl | rfl | rfl | rfl | rfl | rfl | rfl | rfl <;> rfl) (Nat.le_of_ble_eq_true rfl) (Nat.le_of_ble_eq_true rfl) (show decode prog_1_method_1_code 5 = .ok (.new 9, 3) by decide +kernel) (fun qGraph H hP hD hS => ?_)
  have hP : va_P D gx_cl [(h0, .inr (3, [.null, .null, .null, .null, .null, .null, .null, .int 0, .int 0, .int 0, .int 0, .int 0])), (qGraph, .inr (0, [.null, .null, .null, .null, .null, .null, .null, .int 0, .int 0, .int 0]))] H := hP
  have hD : va_D A [(h0, .inr (3, [.null, .null, .null, .null, .null, .null, .null, .int 0, .int 0, .int 0, .int 0, .int 0])), (qGraph, .inr (0, [.null, .null, .null, .null, .null, .null, .null, .int 0, .int 0, .int 0]))] := hD
  refine W.cs (cells' := 1) (slots' := 10) rfl rfl ?_
  refine lv_dup hx hb (show decode prog_1_method_1_code 8 = .ok (.dup, 1) by decide +kernel) rfl ?_
  have hPc := hP.sub (ws' := [(qGraph, .inr (0, [.null, .null, .null, .null, .null, .null, .null, .int 0, .int 0, .int 0]))]) [1] rfl
  have hDc := hD.sub (ws' := [(qGraph, .inr (0, [.null, .null, .null, .null, .null, .null, .null, .int 0, .int 0, .int 0]))]) [1] (by decide) rfl
  have hFc := va_free (wc := [(qGraph, .inr (0, [.null, .null, .null, .null, .null, .null, .null, .int 0, .int 0, .int 0]))]) hD hS hA [1] rfl
  refine va_callv (va_runIN (As := []) (rest := [.ref qGraph, .ref h0]) ⟨hx, hb, hml, hown, hts⟩ (gc_Graph l D cA qGraph H.size) ⟨va_cnB 0 hts (gx_goodC gw_Graph_in (fun _ h9 => List.mem_cons_of_mem _ h9)) rfl rfl rfl hN4.1 (htb _ (show Cond.initialized gR0 ∈ gx_TBL from gx_in1 2 rfl rfl)) (by decide +kernel) ⟨Nat.le_of_ble_eq_true rfl, Nat.le_of_ble_eq_true rfl⟩, rfl, htb _ (show Cond.instanceMethod gy_Graph ∈ gx_TBL from gx_in1 20 rfl rfl)⟩ ⟨fun a U g mk q => by obtain ⟨q0, q1, qP, qK, qD⟩ := q; exact ⟨q0, q1, qP, va_K.moved (u := U) (U := U.calling g mk a) (Vm.Alike.refl U.vm) qK, qD⟩, fun U hU hW => ⟨rfl, by rw [hU], by rw [hU]; exact hPc, va_K.moved hW.alike hK, hDc.weaken (fun _ _ _ _ => trivial)⟩⟩ rfl rfl hl.1 rfl (lv_room (Nat.le_of_ble_eq_true rfl)) (show decode prog_1_method_1_code 9 = .ok (.invokespecial 11, 3) by decide +kernel) ⟨Nat.le_of_ble_eq_true rfl, Nat.le_of_ble_eq_true rfl⟩) hS (fun q _ h => hFc q h) hFc (fun uGraph t H1 locs ht hvm hw hB hz1 hk1 hS => ?_)
  obtain ⟨hP1, hK1, hD1⟩ := hB
  rw [ht] at hP1
  obtain ⟨hP, hD⟩ := va_join (wr := [(h0, .inr (3, [.null, .null, .null, .null, .null, .null, .null, .int 0, .int 0, .int 0, .int 0, .int 0]))]) hP hD [1] [0] rfl rfl (by decide) (by decide) hk1 hFc hP1 hD1
  generalize H1 = H at hP hS ⊢
  have hP : va_P D gx_cl [(h0, .inr (3, [.null, .null, .null, .null, .null, .null, .null, .int 0, .int 0, .int 0, .int 0, .int 0])), (qGraph, .inr (0, [.ref (uGraph 0), .ref (uGraph 1), .ref (uGraph 2), .ref (uGraph 3), .ref (uGraph 4), .ref (uGraph 5), .ref (uGraph 6), .int 0, .int 0, .int 0])), (uGraph 0, .inl (cA .int, 10, .inl (fun _ => 0))), (uGraph 1, .inl (cA .int, 10, .inl (fun _ => 0))), (uGraph 2, .inl (cA .int, 40, .inl (fun _ => 0))), (uGraph 3, .inl (cA .int, 40, .inl (fun _ => 0))), (uGraph 4, .inl (cA .int, 40, .inl (fun _ => 0))), (uGraph 5, .inl (cA .int, 40, .inl (fun _ => 0))), (uGraph 6, .inl (cA .boolean, 40, .inl (fun _ => 0)))] H := hP
  have hD : va_D A [(h0, .inr (3, [.null, .null, .null, .null, .null, .null, .null, .int 0, .int 0, .int 0, .int 0, .int 0])), (qGraph, .inr (0, [.ref (uGraph 0), .ref (uGraph 1), .ref (uGraph 2), .ref (uGraph 3), .ref (uGraph 4), .ref (uGraph 5), .ref (uGraph 6), .int 0, .int 0, .int 0])), (uGraph 0, .inl (cA .int, 10, .inl (fun _ => 0))), (uGraph 1, .inl (cA .int, 10, .inl (fun _ => 0))), (uGraph 2, .inl (cA .int, 40, .inl (fun _ => 0))), (uGraph 3, .inl (cA .int, 40, .inl (fun _ => 0))), (uGraph 4, .inl (cA .int, 40, .inl (fun _ => 0))), (uGraph 5, .inl (cA .int, 40, .inl (fun _ => 0))), (uGraph 6, .inl (cA .boolean, 40, .inl (fun _ => 0)))] := hD
  refine W.cs (cells' := 8) (slots' := 230) rfl rfl ?_
  refine va_putF (D := D) (ci := 3) (v := .ref qGraph) (ty := .object "GreatestFlow$Graph") (C := gR3) (T := gT3) (N := 12) hx hb htb gx_lay3 gY3 gY3_ok gN3 hown hK hP hD hS 0 rfl rfl 0 (by decide) (htb _ (show Cond.fieldLink gR3 12 "GreatestFlow" "graph" "LGreatestFlow$Graph;" ∈ gx_TBL from gx_in1 144 rfl rfl)) (fun _ h9 => h9) rfl hin rfl (by decide +kernel) rfl rfl (Nat.le_of_ble_eq_true rfl) (show decode prog_1_method_1_code 12 = .ok (.putfield 12, 3) by decide +kernel) (fun H locs hP hD hS => ?_)
  have hP : va_P D gx_cl [(h0, .inr (3, [.ref qGraph, .null, .null, .null, .null, .null, .null, .int 0, .int 0, .int 0, .int 0, .int 0])), (qGraph, .inr (0, [.ref (uGraph 0), .ref (uGraph 1), .ref (uGraph 2), .ref (uGraph 3), .ref (uGraph 4), .ref (uGraph 5), .ref (uGraph 6), .int 0, .int 0, .int 0])), (uGraph 0, .inl (cA .int, 10, .inl (fun _ => 0))), (uGraph 1, .inl (cA .int, 10, .inl (fun _ => 0))), (uGraph 2, .inl (cA .int, 40, .inl (fun _ => 0))), (uGraph 3, .inl (cA .int, 40, .inl (fun _ => 0))), (uGraph 4, .inl (cA .int, 40, .inl (fun _ => 0))), (uGraph 5, .inl (cA .int, 40, .inl (fun _ => 0))), (uGraph 6, .inl (cA .boolean, 40, .inl (fun _ => 0)))] H := hP
  have hD : va_D A [(h0, .inr (3, [.ref qGraph, .null, .null, .null, .null, .null, .null, .int 0, .int 0, .int 0, .int 0, .int 0])), (qGraph, .inr (0, [.ref (uGraph 0), .ref (uGraph 1), .ref (uGraph 2), .ref (uGraph 3), .ref (uGraph 4), .ref (uGraph 5), .ref (uGraph 6), .int 0, .int 0, .int 0])), (uGraph 0, .inl (cA .int, 10, .inl (fun _ => 0))), (uGraph 1, .inl (cA .int, 10, .inl (fun _ => 0))), (uGraph 2, .inl (cA .int, 40, .inl (fun _ => 0))), (uGraph 3, .inl (cA .int, 40, .inl (fun _ => 0))), (uGraph 4, .inl (cA .int, 40, .inl (fun _ => 0))), (uGraph 5, .inl (cA .int, 40, .inl (fun _ => 0))), (uGraph 6, .inl (cA .boolean, 40, .inl (fun _ => 0)))] := hD
  refine lv_aload_n hx hb (show decode prog_1_method_1_code 15 = .ok (.aload_n 0, 1) by decide +kernel) rfl (lv_at hl 0 rfl) ?_
  refine va_new (ci := 1) (fs := [.null, .null, .null, .null, .null, .null, .null, .null, .null, .null]) (C := gR1) (T := gT1) (N := 10) hx hb htb gx_lay1 gY1 gY1_ok hown (htb _ (show Cond.classLink gR3 16 gR1 ∈ gx_TBL from gx_in1 69 rfl rfl)) (htb _ (show Cond.instantiable gR1 10 ∈ gx_TBL from gx_in1 70 rfl rfl)) (htb _ (show Cond.initialized gR1 ∈ gx_TBL from gx_in1 3 rfl rfl)) hK hP hD hS hA rfl (fun j hj => by rcases (show j = 0 ∨ j = 1 ∨ j = 2 ∨ j = 3 ∨ j = 4 ∨ j = 5 ∨ j = 6 ∨ j = 7 ∨ j = 8 ∨ j = 9 by omega) with rfl | rfl | rfl | rfl | rfl | rfl | rfl | rfl | rfl | rfl <;> rfl) (Nat.le_of_ble_eq_true rfl) (Nat.le_of_ble_eq_true rfl) (show decode prog_1_method_1_code 16 = .ok (.new 16, 3) by decide +kernel) (fun qNet H hP hD hS => ?_)
  have hP : va_P D gx_cl [(h0, .inr (3, [.ref qGraph, .null, .null, .null, .null, .null, .null, .int 0, .int 0, .int 0, .int 0, .int 0])), (qGraph, .inr (0, [.ref (uGraph 0), .ref (uGraph 1), .ref (uGraph 2), .ref (uGraph 3), .ref (uGraph 4), .ref (uGraph 5), .ref (uGraph 6), .int 0, .int 0, .int 0])), (uGraph 0, .inl (cA .int, 10, .inl (fun _ => 0))), (uGraph 1, .inl (cA .int, 10, .inl (fun _ => 0))), (uGraph 2, .inl (cA .int, 40, .inl (fun _ => 0))), (uGraph 3, .inl (cA .int, 40, .inl (fun _ => 0))), (uGraph 4, .inl (cA .int, 40, .inl (fun _ => 0))), (uGraph 5, .inl (cA .int, 40, .inl (fun _ => 0))), (uGraph 6, .inl (cA .boolean, 40, .inl (fun _ => 0))), (qNet, .inr (1, [.null, .null, .null, .null, .null, .null, .null, .null, .null, .null]))] H := hP
  have hD : va_D A [(h0, .inr (3, [.ref qGraph, .null, .null, .null, .null, .null, .null, .int 0, .int 0, .int 0, .int 0, .int 0])), (qGraph, .inr (0, [.ref (uGraph 0), .ref (uGraph 1), .ref (uGraph 2), .ref (uGraph 3), .ref (uGraph 4), .ref (uGraph 5), .ref (uGraph 6), .int 0, .int 0, .int 0])), (uGraph 0, .inl (cA .int, 10, .inl (fun _ => 0))), (uGraph 1, .inl (cA .int, 10, .inl (fun _ => 0))), (uGraph 2, .inl (cA .int, 40, .inl (fun _ => 0))), (uGraph 3, .inl (cA .int, 40, .inl (fun _ => 0))), (uGraph 4, .inl (cA .int, 40, .inl (fun _ => 0))), (uGraph 5, .inl (cA .int, 40, .inl (fun _ => 0))), (uGraph 6, .inl (cA .boolean, 40, .inl (fun _ => 0))), (qNet, .inr (1, [.null, .null, .null, .null, .null, .null, .null, .null, .null, .null]))] := hD
  refine W.cs (cells' := 9) (slots' := 240) rfl rfl ?_
  refine lv_dup hx hb (show decode prog_1_method_1_code 19 = .ok (.dup, 1) by decide +kernel) rfl ?_
  have hPc := hP.sub (ws' := [(qNet, .inr (1, [.null, .null, .null, .null, .null, .null, .null, .null, .null, .null]))]) [9] rfl
  have hDc := hD.sub (ws' := [(qNet, .inr (1, [.null, .null, .null, .null, .null, .null, .null, .null, .null, .null]))]) [9] (by decide) rfl
  have hFc := va_free (wc := [(qNet, .inr (1, [.null, .null, .null, .null, .null, .null, .null, .null, .null, .null]))]) hD hS hA [9] rfl
  refine va_callv (va_runIN (As := []) (rest := [.ref qNet, .ref h0]) ⟨hx, hb, hml, hown, hts⟩ (gc_Net l D cA qNet H.size) ⟨va_cnB 0 hts (gx_goodC gw_Net_in (fun _ h9 => List.mem_cons_of_mem _ h9)) rfl rfl rfl hN4.2.1 (htb _ (show Cond.initialized gR1 ∈ gx_TBL from gx_in1 3 rfl rfl)) (by decide +kernel) ⟨Nat.le_of_ble_eq_true rfl, Nat.le_of_ble_eq_true rfl⟩, rfl, htb _ (show Cond.instanceMethod gy_Net ∈ gx_TBL from gx_in1 72 rfl rfl)⟩ ⟨fun a U g mk q => by obtain ⟨q0, q1, qP, qK, qD⟩ := q; exact ⟨q0, q1, qP, va_K.moved (u := U) (U := U.calling g mk a) (Vm.Alike.refl U.vm) qK, qD⟩, fun U hU hW => ⟨rfl, by rw [hU], by rw [hU]; exact hPc, va_K.moved hW.alike hK, hDc.weaken (fun _ _ _ _ => trivial)⟩⟩ rfl rfl hl.1 rfl (lv_room (Nat.le_of_ble_eq_true rfl)) (show decode prog_1_method_1_code 20 = .ok (.invokespecial 18, 3) by decide +kernel) ⟨Nat.le_of_ble_eq_true rfl, Nat.le_of_ble_eq_true rfl⟩) hS (fun q _ h => hFc q h) hFc (fun uNet t H1 locs ht hvm hw hB hz1 hk1 hS => ?_)
  obtain ⟨hP1, hK1, hD1⟩ := hB
  rw [ht] at hP1
  obtain ⟨hP, hD⟩ := va_join (wr := [(h0, .inr (3, [.ref qGraph, .null, .null, .null, .null, .null, .null, .int 0, .int 0, .int 0, .int 0, .int 0])), (qGraph, .inr (0, [.ref (uGraph 0), .ref (uGraph 1), .ref (uGraph 2), .ref (uGraph 3), .ref (uGraph 4), .ref (uGraph 5), .ref (uGraph 6), .int 0, .int 0, .int 0])), (uGraph 0, .inl (cA .int, 10, .inl (fun _ => 0))), (uGraph 1, .inl (cA .int, 10, .inl (fun _ => 0))), (uGraph 2, .inl (cA .int, 40, .inl (fun _ => 0))), (uGraph 3, .inl (cA .int, 40, .inl (fun _ => 0))), (uGraph 4, .inl (cA .int, 40, .inl (fun _ => 0))), (uGraph 5, .inl (cA .int, 40, .inl (fun _ => 0))), (uGraph 6, .inl (cA .boolean, 40, .inl (fun _ => 0)))]) hP hD [9] [0, 1, 2, 3, 4, 5, 6, 7, 8] rfl rfl (by decide) (by decide) hk1 hFc hP1 hD1
  generalize H1 = H at hP hS ⊢
  have hP : va_P D gx_cl [(h0, .inr (3, [.ref qGraph, .null, .null, .null, .null, .null, .null, .int 0, .int 0, .int 0, .int 0, .int 0])), (qGraph, .inr (0, [.ref (uGraph 0), .ref (uGraph 1), .ref (uGraph 2), .ref (uGraph 3), .ref (uGraph 4), .ref (uGraph 5), .ref (uGraph 6), .int 0, .int 0, .int 0])), (uGraph 0, .inl (cA .int, 10, .inl (fun _ => 0))), (uGraph 1, .inl (cA .int, 10, .inl (fun _ => 0))), (uGraph 2, .inl (cA .int, 40, .inl (fun _ => 0))), (uGraph 3, .inl (cA .int, 40, .inl (fun _ => 0))), (uGraph 4, .inl (cA .int, 40, .inl (fun _ => 0))), (uGraph 5, .inl (cA .int, 40, .inl (fun _ => 0))), (uGraph 6, .inl (cA .boolean, 40, .inl (fun _ => 0))), (qNet, .inr (1, [.ref (uNet 0), .ref (uNet 1), .ref (uNet 2), .ref (uNet 3), .ref (uNet 4), .ref (uNet 5), .ref (uNet 6), .ref (uNet 7), .ref (uNet 8), .ref (uNet 9)])), (uNet 0, .inl (cA .int, 61, .inl (fun _ => 0))), (uNet 1, .inl (cA .int, 61, .inl (fun _ => 0))), (uNet 2, .inl (cA .int, 61, .inl (fun _ => 0))), (uNet 3, .inl (cA .int, 61, .inl (fun _ => 0))), (uNet 4, .inl (cA .int, 61, .inl (fun _ => 0))), (uNet 5, .inl (cA .boolean, 61, .inl (fun _ => 0))), (uNet 6, .inl (cA .int, 924, .inl (fun _ => 0))), (uNet 7, .inl (cA .int, 22, .inl (fun _ => 0))), (uNet 8, .inl (cA .int, 22, .inl (fun _ => 0))), (uNet 9, .inl (cA .int, 22, .inl (fun _ => 0)))] H := hP
  have hD : va_D A [(h0, .inr (3, [.ref qGraph, .null, .null, .null, .null, .null, .null, .int 0, .int 0, .int 0, .int 0, .int 0])), (qGraph, .inr (0, [.ref (uGraph 0), .ref (uGraph 1), .ref (uGraph 2), .ref (uGraph 3), .ref (uGraph 4), .ref (uGraph 5), .ref (uGraph 6), .int 0, .int 0, .int 0])), (uGraph 0, .inl (cA .int, 10, .inl (fun _ => 0))), (uGraph 1, .inl (cA .int, 10, .inl (fun _ => 0))), (uGraph 2, .inl (cA .int, 40, .inl (fun _ => 0))), (uGraph 3, .inl (cA .int, 40, .inl (fun _ => 0))), (uGraph 4, .inl (cA .int, 40, .inl (fun _ => 0))), (uGraph 5, .inl (cA .int, 40, .inl (fun _ => 0))), (uGraph 6, .inl (cA .boolean, 40, .inl (fun _ => 0))), (qNet, .inr (1, [.ref (uNet 0), .ref (uNet 1), .ref (uNet 2), .ref (uNet 3), .ref (uNet 4), .ref (uNet 5), .ref (uNet 6), .ref (uNet 7), .ref (uNet 8), .ref (uNet 9)])), (uNet 0, .inl (cA .int, 61, .inl (fun _ => 0))), (uNet 1, .inl (cA .int, 61, .inl (fun _ => 0))), (uNet 2, .inl (cA .int, 61, .inl (fun _ => 0))), (uNet 3, .inl (cA .int, 61, .inl (fun _ => 0))), (uNet 4, .inl (cA .int, 61, .inl (fun _ => 0))), (uNet 5, .inl (cA .boolean, 61, .inl (fun _ => 0))), (uNet 6, .inl (cA .int, 924, .inl (fun _ => 0))), (uNet 7, .inl (cA .int, 22, .inl (fun _ => 0))), (uNet 8, .inl (cA .int, 22, .inl (fun _ => 0))), (uNet 9, .inl (cA .int, 22, .inl (fun _ => 0)))] := hD
  refine W.cs (cells' := 19) (slots' := 1596) rfl rfl ?_
  refine va_putF (D := D) (ci := 3) (v := .ref qNet) (ty := .object "GreatestFlow$Net") (C := gR3) (T := gT3) (N := 12) hx hb htb gx_lay3 gY3 gY3_ok gN3 hown hK hP hD hS 0 rfl rfl 1 (by decide) (htb _ (show Cond.fieldLink gR3 19 "GreatestFlow" "net" "LGreatestFlow$Net;" ∈ gx_TBL from gx_in1 145 rfl rfl)) (fun _ h9 => h9) rfl hin rfl (by decide +kernel) rfl rfl (Nat.le_of_ble_eq_true rfl) (show decode prog_1_method_1_code 23 = .ok (.putfield 19, 3) by decide +kernel) (fun H locs hP hD hS => ?_)
  have hP : va_P D gx_cl [(h0, .inr (3, [.ref qGraph, .ref qNet, .null, .null, .null, .null, .null, .int 0, .int 0, .int 0, .int 0, .int 0])), (qGraph, .inr (0, [.ref (uGraph 0), .ref (uGraph 1), .ref (uGraph 2), .ref (uGraph 3), .ref (uGraph 4), .ref (uGraph 5), .ref (uGraph 6), .int 0, .int 0, .int 0])), (uGraph 0, .inl (cA .int, 10, .inl (fun _ => 0))), (uGraph 1, .inl (cA .int, 10, .inl (fun _ => 0))), (uGraph 2, .inl (cA .int, 40, .inl (fun _ => 0))), (uGraph 3, .inl (cA .int, 40, .inl (fun _ => 0))), (uGraph 4, .inl (cA .int, 40, .inl (fun _ => 0))), (uGraph 5, .inl (cA .int, 40, .inl (fun _ => 0))), (uGraph 6, .inl (cA .boolean, 40, .inl (fun _ => 0))), (qNet, .inr (1, [.ref (uNet 0), .ref (uNet 1), .ref (uNet 2), .ref (uNet 3), .ref (uNet 4), .ref (uNet 5), .ref (uNet 6), .ref (uNet 7), .ref (uNet 8), .ref (uNet 9)])), (uNet 0, .inl (cA .int, 61, .inl (fun _ => 0))), (uNet 1, .inl (cA .int, 61, .inl (fun _ => 0))), (uNet 2, .inl (cA .int, 61, .inl (fun _ => 0))), (uNet 3, .inl (cA .int, 61, .inl (fun _ => 0))), (uNet 4, .inl (cA .int, 61, .inl (fun _ => 0))), (uNet 5, .inl (cA .boolean, 61, .inl (fun _ => 0))), (uNet 6, .inl (cA .int, 924, .inl (fun _ => 0))), (uNet 7, .inl (cA .int, 22, .inl (fun _ => 0))), (uNet 8, .inl (cA .int, 22, .inl (fun _ => 0))), (uNet 9, .inl (cA .int, 22, .inl (fun _ => 0)))] H := hP
  have hD : va_D A [(h0, .inr (3, [.ref qGraph, .ref qNet, .null, .null, .null, .null, .null, .int 0, .int 0, .int 0, .int 0, .int 0])), (qGraph, .inr (0, [.ref (uGraph 0), .ref (uGraph 1), .ref (uGraph 2), .ref (uGraph 3), .ref (uGraph 4), .ref (uGraph 5), .ref (uGraph 6), .int 0, .int 0, .int 0])), (uGraph 0, .inl (cA .int, 10, .inl (fun _ => 0))), (uGraph 1, .inl (cA .int, 10, .inl (fun _ => 0))), (uGraph 2, .inl (cA .int, 40, .inl (fun _ => 0))), (uGraph 3, .inl (cA .int, 40, .inl (fun _ => 0))), (uGraph 4, .inl (cA .int, 40, .inl (fun _ => 0))), (uGraph 5, .inl (cA .int, 40, .inl (fun _ => 0))), (uGraph 6, .inl (cA .boolean, 40, .inl (fun _ => 0))), (qNet, .inr (1, [.ref (uNet 0), .ref (uNet 1), .ref (uNet 2), .ref (uNet 3), .ref (uNet 4), .ref (uNet 5), .ref (uNet 6), .ref (uNet 7), .ref (uNet 8), .ref (uNet 9)])), (uNet 0, .inl (cA .int, 61, .inl (fun _ => 0))), (uNet 1, .inl (cA .int, 61, .inl (fun _ => 0))), (uNet 2, .inl (cA .int, 61, .inl (fun _ => 0))), (uNet 3, .inl (cA .int, 61, .inl (fun _ => 0))), (uNet 4, .inl (cA .int, 61, .inl (fun _ => 0))), (uNet 5, .inl (cA .boolean, 61, .inl (fun _ => 0))), (uNet 6, .inl (cA .int, 924, .inl (fun _ => 0))), (uNet 7, .inl (cA .int, 22, .inl (fun _ => 0))), (uNet 8, .inl (cA .int, 22, .inl (fun _ => 0))), (uNet 9, .inl (cA .int, 22, .inl (fun _ => 0)))] := hD
  refine lv_aload_n hx hb (show decode prog_1_method_1_code 26 = .ok (.aload_n 0, 1) by decide +kernel) rfl (lv_at hl 0 rfl) ?_
  refine va_new (ci := 2) (fs := [.null, .null, .int 0, .null, .null, .null, .null, .null]) (C := gR2) (T := gT2) (N := 8) hx hb htb gx_lay2 gY2 gY2_ok hown (htb _ (show Cond.classLink gR3 23 gR2 ∈ gx_TBL from gx_in1 108 rfl rfl)) (htb _ (show Cond.instantiable gR2 8 ∈ gx_TBL from gx_in1 109 rfl rfl)) (htb _ (show Cond.initialized gR2 ∈ gx_TBL from gx_in1 4 rfl rfl)) hK hP hD hS hA rfl (fun j hj => by rcases (show j = 0 ∨ j = 1 ∨ j = 2 ∨ j = 3 ∨ j = 4 ∨ j = 5 ∨ j = 6 ∨ j = 7 by omega) with rfl | rfl | rfl | rfl | rfl | rfl | rfl | rfl <;> rfl) (Nat.le_of_ble_eq_true rfl) (Nat.le_of_ble_eq_true rfl) (show decode prog_1_method_1_code 27 = .ok (.new 23, 3) by decide +kernel) (fun qParts H hP hD hS => ?_)
  have hP : va_P D gx_cl [(h0, .inr (3, [.ref qGraph, .ref qNet, .null, .null, .null, .null, .null, .int 0, .int 0, .int 0, .int 0, .int 0])), (qGraph, .inr (0, [.ref (uGraph 0), .ref (uGraph 1), .ref (uGraph 2), .ref (uGraph 3), .ref (uGraph 4), .ref (uGraph 5), .ref (uGraph 6), .int 0, .int 0, .int 0])), (uGraph 0, .inl (cA .int, 10, .inl (fun _ => 0))), (uGraph 1, .inl (cA .int, 10, .inl (fun _ => 0))), (uGraph 2, .inl (cA .int, 40, .inl (fun _ => 0))), (uGraph 3, .inl (cA .int, 40, .inl (fun _ => 0))), (uGraph 4, .inl (cA .int, 40, .inl (fun _ => 0))), (uGraph 5, .inl (cA .int, 40, .inl (fun _ => 0))), (uGraph 6, .inl (cA .boolean, 40, .inl (fun _ => 0))), (qNet, .inr (1, [.ref (uNet 0), .ref (uNet 1), .ref (uNet 2), .ref (uNet 3), .ref (uNet 4), .ref (uNet 5), .ref (uNet 6), .ref (uNet 7), .ref (uNet 8), .ref (uNet 9)])), (uNet 0, .inl (cA .int, 61, .inl (fun _ => 0))), (uNet 1, .inl (cA .int, 61, .inl (fun _ => 0))), (uNet 2, .inl (cA .int, 61, .inl (fun _ => 0))), (uNet 3, .inl (cA .int, 61, .inl (fun _ => 0))), (uNet 4, .inl (cA .int, 61, .inl (fun _ => 0))), (uNet 5, .inl (cA .boolean, 61, .inl (fun _ => 0))), (uNet 6, .inl (cA .int, 924, .inl (fun _ => 0))), (uNet 7, .inl (cA .int, 22, .inl (fun _ => 0))), (uNet 8, .inl (cA .int, 22, .inl (fun _ => 0))), (uNet 9, .inl (cA .int, 22, .inl (fun _ => 0))), (qParts, .inr (2, [.null, .null, .int 0, .null, .null, .null, .null, .null]))] H := hP
  have hD : va_D A [(h0, .inr (3, [.ref qGraph, .ref qNet, .null, .null, .null, .null, .null, .int 0, .int 0, .int 0, .int 0, .int 0])), (qGraph, .inr (0, [.ref (uGraph 0), .ref (uGraph 1), .ref (uGraph 2), .ref (uGraph 3), .ref (uGraph 4), .ref (uGraph 5), .ref (uGraph 6), .int 0, .int 0, .int 0])), (uGraph 0, .inl (cA .int, 10, .inl (fun _ => 0))), (uGraph 1, .inl (cA .int, 10, .inl (fun _ => 0))), (uGraph 2, .inl (cA .int, 40, .inl (fun _ => 0))), (uGraph 3, .inl (cA .int, 40, .inl (fun _ => 0))), (uGraph 4, .inl (cA .int, 40, .inl (fun _ => 0))), (uGraph 5, .inl (cA .int, 40, .inl (fun _ => 0))), (uGraph 6, .inl (cA .boolean, 40, .inl (fun _ => 0))), (qNet, .inr (1, [.ref (uNet 0), .ref (uNet 1), .ref (uNet 2), .ref (uNet 3), .ref (uNet 4), .ref (uNet 5), .ref (uNet 6), .ref (uNet 7), .ref (uNet 8), .ref (uNet 9)])), (uNet 0, .inl (cA .int, 61, .inl (fun _ => 0))), (uNet 1, .inl (cA .int, 61, .inl (fun _ => 0))), (uNet 2, .inl (cA .int, 61, .inl (fun _ => 0))), (uNet 3, .inl (cA .int, 61, .inl (fun _ => 0))), (uNet 4, .inl (cA .int, 61, .inl (fun _ => 0))), (uNet 5, .inl (cA .boolean, 61, .inl (fun _ => 0))), (uNet 6, .inl (cA .int, 924, .inl (fun _ => 0))), (uNet 7, .inl (cA .int, 22, .inl (fun _ => 0))), (uNet 8, .inl (cA .int, 22, .inl (fun _ => 0))), (uNet 9, .inl (cA .int, 22, .inl (fun _ => 0))), (qParts, .inr (2, [.null, .null, .int 0, .null, .null, .null, .null, .null]))] := hD
  refine W.cs (cells' := 20) (slots' := 1604) rfl rfl ?_
  refine lv_dup hx hb (show decode prog_1_method_1_code 30 = .ok (.dup, 1) by decide +kernel) rfl ?_
  have hPc := hP.sub (ws' := [(qParts, .inr (2, [.null, .null, .int 0, .null, .null, .null, .null, .null]))]) [20] rfl
  have hDc := hD.sub (ws' := [(qParts, .inr (2, [.null, .null, .int 0, .null, .null, .null, .null, .null]))]) [20] (by decide) rfl
  have hFc := va_free (wc := [(qParts, .inr (2, [.null, .null, .int 0, .null, .null, .null, .null, .null]))]) hD hS hA [20] rfl
  refine va_callv (va_runIN (As := []) (rest := [.ref qParts, .ref h0]) ⟨hx, hb, hml, hown, hts⟩ (gc_Parts l D cA qParts H.size) ⟨va_cnB 0 hts (gx_goodC gw_Parts_in (fun _ h9 => List.mem_cons_of_mem _ h9)) rfl rfl rfl hN4.2.2.1 (htb _ (show Cond.initialized gR2 ∈ gx_TBL from gx_in1 4 rfl rfl)) (by decide +kernel) ⟨Nat.le_of_ble_eq_true rfl, Nat.le_of_ble_eq_true rfl⟩, rfl, htb _ (show Cond.instanceMethod gy_Parts ∈ gx_TBL from gx_in1 111 rfl rfl)⟩ ⟨fun a U g mk q => by obtain ⟨q0, q1, qP, qK, qD⟩ := q; exact ⟨q0, q1, qP, va_K.moved (u := U) (U := U.calling g mk a) (Vm.Alike.refl U.vm) qK, qD⟩, fun U hU hW => ⟨rfl, by rw [hU], by rw [hU]; exact hPc, va_K.moved hW.alike hK, hDc.weaken (fun _ _ _ _ => trivial)⟩⟩ rfl rfl hl.1 rfl (lv_room (Nat.le_of_ble_eq_true rfl)) (show decode prog_1_method_1_code 31 = .ok (.invokespecial 25, 3) by decide +kernel) ⟨Nat.le_of_ble_eq_true rfl, Nat.le_of_ble_eq_true rfl⟩) hS (fun q _ h => hFc q h) hFc (fun uParts t H1 locs ht hvm hw hB hz1 hk1 hS => ?_)
  obtain ⟨hP1, hK1, hD1⟩ := hB
  rw [ht] at hP1
  obtain ⟨hP, hD⟩ := va_join (wr := [(h0, .inr (3, [.ref qGraph, .ref qNet, .null, .null, .null, .null, .null, .int 0, .int 0, .int 0, .int 0, .int 0])), (qGraph, .inr (0, [.ref (uGraph 0), .ref (uGraph 1), .ref (uGraph 2), .ref (uGraph 3), .ref (uGraph 4), .ref (uGraph 5), .ref (uGraph 6), .int 0, .int 0, .int 0])), (uGraph 0, .inl (cA .int, 10, .inl (fun _ => 0))), (uGraph 1, .inl (cA .int, 10, .inl (fun _ => 0))), (uGraph 2, .inl (cA .int, 40, .inl (fun _ => 0))), (uGraph 3, .inl (cA .int, 40, .inl (fun _ => 0))), (uGraph 4, .inl (cA .int, 40, .inl (fun _ => 0))), (uGraph 5, .inl (cA .int, 40, .inl (fun _ => 0))), (uGraph 6, .inl (cA .boolean, 40, .inl (fun _ => 0))), (qNet, .inr (1, [.ref (uNet 0), .ref (uNet 1), .ref (uNet 2), .ref (uNet 3), .ref (uNet 4), .ref (uNet 5), .ref (uNet 6), .ref (uNet 7), .ref (uNet 8), .ref (uNet 9)])), (uNet 0, .inl (cA .int, 61, .inl (fun _ => 0))), (uNet 1, .inl (cA .int, 61, .inl (fun _ => 0))), (uNet 2, .inl (cA .int, 61, .inl (fun _ => 0))), (uNet 3, .inl (cA .int, 61, .inl (fun _ => 0))), (uNet 4, .inl (cA .int, 61, .inl (fun _ => 0))), (uNet 5, .inl (cA .boolean, 61, .inl (fun _ => 0))), (uNet 6, .inl (cA .int, 924, .inl (fun _ => 0))), (uNet 7, .inl (cA .int, 22, .inl (fun _ => 0))), (uNet 8, .inl (cA .int, 22, .inl (fun _ => 0))), (uNet 9, .inl (cA .int, 22, .inl (fun _ => 0)))]) hP hD [20] [0, 1, 2, 3, 4, 5, 6, 7, 8, 9, 10, 11, 12, 13, 14, 15, 16, 17, 18, 19] rfl rfl (by decide) (by decide) hk1 hFc hP1 hD1
  generalize H1 = H at hP hS ⊢
  have hP : va_P D gx_cl [(h0, .inr (3, [.ref qGraph, .ref qNet, .null, .null, .null, .null, .null, .int 0, .int 0, .int 0, .int 0, .int 0])), (qGraph, .inr (0, [.ref (uGraph 0), .ref (uGraph 1), .ref (uGraph 2), .ref (uGraph 3), .ref (uGraph 4), .ref (uGraph 5), .ref (uGraph 6), .int 0, .int 0, .int 0])), (uGraph 0, .inl (cA .int, 10, .inl (fun _ => 0))), (uGraph 1, .inl (cA .int, 10, .inl (fun _ => 0))), (uGraph 2, .inl (cA .int, 40, .inl (fun _ => 0))), (uGraph 3, .inl (cA .int, 40, .inl (fun _ => 0))), (uGraph 4, .inl (cA .int, 40, .inl (fun _ => 0))), (uGraph 5, .inl (cA .int, 40, .inl (fun _ => 0))), (uGraph 6, .inl (cA .boolean, 40, .inl (fun _ => 0))), (qNet, .inr (1, [.ref (uNet 0), .ref (uNet 1), .ref (uNet 2), .ref (uNet 3), .ref (uNet 4), .ref (uNet 5), .ref (uNet 6), .ref (uNet 7), .ref (uNet 8), .ref (uNet 9)])), (uNet 0, .inl (cA .int, 61, .inl (fun _ => 0))), (uNet 1, .inl (cA .int, 61, .inl (fun _ => 0))), (uNet 2, .inl (cA .int, 61, .inl (fun _ => 0))), (uNet 3, .inl (cA .int, 61, .inl (fun _ => 0))), (uNet 4, .inl (cA .int, 61, .inl (fun _ => 0))), (uNet 5, .inl (cA .boolean, 61, .inl (fun _ => 0))), (uNet 6, .inl (cA .int, 924, .inl (fun _ => 0))), (uNet 7, .inl (cA .int, 22, .inl (fun _ => 0))), (uNet 8, .inl (cA .int, 22, .inl (fun _ => 0))), (uNet 9, .inl (cA .int, 22, .inl (fun _ => 0))), (qParts, .inr (2, [.ref (uParts 0), .ref (uParts 1), .int 0, .ref (uParts 2), .ref (uParts 3), .ref (uParts 4), .ref (uParts 5), .ref (uParts 6)])), (uParts 0, .inl (cA .int, 50, .inl (fun _ => 0))), (uParts 1, .inl (cA .int, 50, .inl (fun _ => 0))), (uParts 2, .inl (cA .int, 500, .inl (fun _ => 0))), (uParts 3, .inl (cA .int, 40, .inl (fun _ => 0))), (uParts 4, .inl (cA .int, 10, .inl (fun _ => 0))), (uParts 5, .inl (cA .int, 10, .inl (fun _ => 0))), (uParts 6, .inl (cA .int, 10, .inl (fun _ => 0)))] H := hP
  have hD : va_D A [(h0, .inr (3, [.ref qGraph, .ref qNet, .null, .null, .null, .null, .null, .int 0, .int 0, .int 0, .int 0, .int 0])), (qGraph, .inr (0, [.ref (uGraph 0), .ref (uGraph 1), .ref (uGraph 2), .ref (uGraph 3), .ref (uGraph 4), .ref (uGraph 5), .ref (uGraph 6), .int 0, .int 0, .int 0])), (uGraph 0, .inl (cA .int, 10, .inl (fun _ => 0))), (uGraph 1, .inl (cA .int, 10, .inl (fun _ => 0))), (uGraph 2, .inl (cA .int, 40, .inl (fun _ => 0))), (uGraph 3, .inl (cA .int, 40, .inl (fun _ => 0))), (uGraph 4, .inl (cA .int, 40, .inl (fun _ => 0))), (uGraph 5, .inl (cA .int, 40, .inl (fun _ => 0))), (uGraph 6, .inl (cA .boolean, 40, .inl (fun _ => 0))), (qNet, .inr (1, [.ref (uNet 0), .ref (uNet 1), .ref (uNet 2), .ref (uNet 3), .ref (uNet 4), .ref (uNet 5), .ref (uNet 6), .ref (uNet 7), .ref (uNet 8), .ref (uNet 9)])), (uNet 0, .inl (cA .int, 61, .inl (fun _ => 0))), (uNet 1, .inl (cA .int, 61, .inl (fun _ => 0))), (uNet 2, .inl (cA .int, 61, .inl (fun _ => 0))), (uNet 3, .inl (cA .int, 61, .inl (fun _ => 0))), (uNet 4, .inl (cA .int, 61, .inl (fun _ => 0))), (uNet 5, .inl (cA .boolean, 61, .inl (fun _ => 0))), (uNet 6, .inl (cA .int, 924, .inl (fun _ => 0))), (uNet 7, .inl (cA .int, 22, .inl (fun _ => 0))), (uNet 8, .inl (cA .int, 22, .inl (fun _ => 0))), (uNet 9, .inl (cA .int, 22, .inl (fun _ => 0))), (qParts, .inr (2, [.ref (uParts 0), .ref (uParts 1), .int 0, .ref (uParts 2), .ref (uParts 3), .ref (uParts 4), .ref (uParts 5), .ref (uParts 6)])), (uParts 0, .inl (cA .int, 50, .inl (fun _ => 0))), (uParts 1, .inl (cA .int, 50, .inl (fun _ => 0))), (uParts 2, .inl (cA .int, 500, .inl (fun _ => 0))), (uParts 3, .inl (cA .int, 40, .inl (fun _ => 0))), (uParts 4, .inl (cA .int, 10, .inl (fun _ => 0))), (uParts 5, .inl (cA .int, 10, .inl (fun _ => 0))), (uParts 6, .inl (cA .int, 10, .inl (fun _ => 0)))] := hD
  refine W.cs (cells' := 27) (slots' := 2274) rfl rfl ?_
  refine va_putF (D := D) (ci := 3) (v := .ref qParts) (ty := .object "GreatestFlow$Parts") (C := gR3) (T := gT3) (N := 12) hx hb htb gx_lay3 gY3 gY3_ok gN3 hown hK hP hD hS 0 rfl rfl 2 (by decide) (htb _ (show Cond.fieldLink gR3 26 "GreatestFlow" "parts" "LGreatestFlow$Parts;" ∈ gx_TBL from gx_in1 146 rfl rfl)) (fun _ h9 => h9) rfl hin rfl (by decide +kernel) rfl rfl (Nat.le_of_ble_eq_true rfl) (show decode prog_1_method_1_code 34 = .ok (.putfield 26, 3) by decide +kernel) (fun H locs hP hD hS => ?_)
  have hP : va_P D gx_cl [(h0, .inr (3, [.ref qGraph, .ref qNet, .ref qParts, .null, .null, .null, .null, .int 0, .int 0, .int 0, .int 0, .int 0])), (qGraph, .inr (0, [.ref (uGraph 0), .ref (uGraph 1), .ref (uGraph 2), .ref (uGraph 3), .ref (uGraph 4), .ref (uGraph 5), .ref (uGraph 6), .int 0, .int 0, .int 0])), (uGraph 0, .inl (cA .int, 10, .inl (fun _ => 0))), (uGraph 1, .inl (cA .int, 10, .inl (fun _ => 0))), (uGraph 2, .inl (cA .int, 40, .inl (fun _ => 0))), (uGraph 3, .inl (cA .int, 40, .inl (fun _ => 0))), (uGraph 4, .inl (cA .int, 40, .inl (fun _ => 0))), (uGraph 5, .inl (cA .int, 40, .inl (fun _ => 0))), (uGraph 6, .inl (cA .boolean, 40, .inl (fun _ => 0))), (qNet, .inr (1, [.ref (uNet 0), .ref (uNet 1), .ref (uNet 2), .ref (uNet 3), .ref (uNet 4), .ref (uNet 5), .ref (uNet 6), .ref (uNet 7), .ref (uNet 8), .ref (uNet 9)])), (uNet 0, .inl (cA .int, 61, .inl (fun _ => 0))), (uNet 1, .inl (cA .int, 61, .inl (fun _ => 0))), (uNet 2, .inl (cA .int, 61, .inl (fun _ => 0))), (uNet 3, .inl (cA .int, 61, .inl (fun _ => 0))), (uNet 4, .inl (cA .int, 61, .inl (fun _ => 0))), (uNet 5, .inl (cA .boolean, 61, .inl (fun _ => 0))), (uNet 6, .inl (cA .int, 924, .inl (fun _ => 0))), (uNet 7, .inl (cA .int, 22, .inl (fun _ => 0))), (uNet 8, .inl (cA .int, 22, .inl (fun _ => 0))), (uNet 9, .inl (cA .int, 22, .inl (fun _ => 0))), (qParts, .inr (2, [.ref (uParts 0), .ref (uParts 1), .int 0, .ref (uParts 2), .ref (uParts 3), .ref (uParts 4), .ref (uParts 5), .ref (uParts 6)])), (uParts 0, .inl (cA .int, 50, .inl (fun _ => 0))), (uParts 1, .inl (cA .int, 50, .inl (fun _ => 0))), (uParts 2, .inl (cA .int, 500, .inl (fun _ => 0))), (uParts 3, .inl (cA .int, 40, .inl (fun _ => 0))), (uParts 4, .inl (cA .int, 10, .inl (fun _ => 0))), (uParts 5, .inl (cA .int, 10, .inl (fun _ => 0))), (uParts 6, .inl (cA .int, 10, .inl (fun _ => 0)))] H := hP
  have hD : va_D A [(h0, .inr (3, [.ref qGraph, .ref qNet, .ref qParts, .null, .null, .null, .null, .int 0, .int 0, .int 0, .int 0, .int 0])), (qGraph, .inr (0, [.ref (uGraph 0), .ref (uGraph 1), .ref (uGraph 2), .ref (uGraph 3), .ref (uGraph 4), .ref (uGraph 5), .ref (uGraph 6), .int 0, .int 0, .int 0])), (uGraph 0, .inl (cA .int, 10, .inl (fun _ => 0))), (uGraph 1, .inl (cA .int, 10, .inl (fun _ => 0))), (uGraph 2, .inl (cA .int, 40, .inl (fun _ => 0))), (uGraph 3, .inl (cA .int, 40, .inl (fun _ => 0))), (uGraph 4, .inl (cA .int, 40, .inl (fun _ => 0))), (uGraph 5, .inl (cA .int, 40, .inl (fun _ => 0))), (uGraph 6, .inl (cA .boolean, 40, .inl (fun _ => 0))), (qNet, .inr (1, [.ref (uNet 0), .ref (uNet 1), .ref (uNet 2), .ref (uNet 3), .ref (uNet 4), .ref (uNet 5), .ref (uNet 6), .ref (uNet 7), .ref (uNet 8), .ref (uNet 9)])), (uNet 0, .inl (cA .int, 61, .inl (fun _ => 0))), (uNet 1, .inl (cA .int, 61, .inl (fun _ => 0))), (uNet 2, .inl (cA .int, 61, .inl (fun _ => 0))), (uNet 3, .inl (cA .int, 61, .inl (fun _ => 0))), (uNet 4, .inl (cA .int, 61, .inl (fun _ => 0))), (uNet 5, .inl (cA .boolean, 61, .inl (fun _ => 0))), (uNet 6, .inl (cA .int, 924, .inl (fun _ => 0))), (uNet 7, .inl (cA .int, 22, .inl (fun _ => 0))), (uNet 8, .inl (cA .int, 22, .inl (fun _ => 0))), (uNet 9, .inl (cA .int, 22, .inl (fun _ => 0))), (qParts, .inr (2, [.ref (uParts 0), .ref (uParts 1), .int 0, .ref (uParts 2), .ref (uParts 3), .ref (uParts 4), .ref (uParts 5), .ref (uParts 6)])), (uParts 0, .inl (cA .int, 50, .inl (fun _ => 0))), (uParts 1, .inl (cA .int, 50, .inl (fun _ => 0))), (uParts 2, .inl (cA .int, 500, .inl (fun _ => 0))), (uParts 3, .inl (cA .int, 40, .inl (fun _ => 0))), (uParts 4, .inl (cA .int, 10, .inl (fun _ => 0))), (uParts 5, .inl (cA .int, 10, .inl (fun _ => 0))), (uParts 6, .inl (cA .int, 10, .inl (fun _ => 0)))] := hD
  refine lv_aload_n hx hb (show decode prog_1_method_1_code 37 = .ok (.aload_n 0, 1) by decide +kernel) rfl (lv_at hl 0 rfl) ?_
  refine lv_bipush (v := 61) hx hb (show decode prog_1_method_1_code 38 = .ok (.bipush 61, 2) by decide +kernel) (by decide) ?_
  refine gx_na (cA := cA) hx hb (ty := .int) rfl (htb _ gx_aI) rfl (gx_raI hK) hK hP hD hS hA 61 (by decide) (by decide) (by decide) (Nat.le_of_ble_eq_true rfl) (Nat.le_of_ble_eq_true rfl) (show decode prog_1_method_1_code 40 = .ok (.newarray .int, 2) by decide +kernel) (fun qS H hP hD hS => ?_)
  have hP : va_P D gx_cl [(h0, .inr (3, [.ref qGraph, .ref qNet, .ref qParts, .null, .null, .null, .null, .int 0, .int 0, .int 0, .int 0, .int 0])), (qGraph, .inr (0, [.ref (uGraph 0), .ref (uGraph 1), .ref (uGraph 2), .ref (uGraph 3), .ref (uGraph 4), .ref (uGraph 5), .ref (uGraph 6), .int 0, .int 0, .int 0])), (uGraph 0, .inl (cA .int, 10, .inl (fun _ => 0))), (uGraph 1, .inl (cA .int, 10, .inl (fun _ => 0))), (uGraph 2, .inl (cA .int, 40, .inl (fun _ => 0))), (uGraph 3, .inl (cA .int, 40, .inl (fun _ => 0))), (uGraph 4, .inl (cA .int, 40, .inl (fun _ => 0))), (uGraph 5, .inl (cA .int, 40, .inl (fun _ => 0))), (uGraph 6, .inl (cA .boolean, 40, .inl (fun _ => 0))), (qNet, .inr (1, [.ref (uNet 0), .ref (uNet 1), .ref (uNet 2), .ref (uNet 3), .ref (uNet 4), .ref (uNet 5), .ref (uNet 6), .ref (uNet 7), .ref (uNet 8), .ref (uNet 9)])), (uNet 0, .inl (cA .int, 61, .inl (fun _ => 0))), (uNet 1, .inl (cA .int, 61, .inl (fun _ => 0))), (uNet 2, .inl (cA .int, 61, .inl (fun _ => 0))), (uNet 3, .inl (cA .int, 61, .inl (fun _ => 0))), (uNet 4, .inl (cA .int, 61, .inl (fun _ => 0))), (uNet 5, .inl (cA .boolean, 61, .inl (fun _ => 0))), (uNet 6, .inl (cA .int, 924, .inl (fun _ => 0))), (uNet 7, .inl (cA .int, 22, .inl (fun _ => 0))), (uNet 8, .inl (cA .int, 22, .inl (fun _ => 0))), (uNet 9, .inl (cA .int, 22, .inl (fun _ => 0))), (qParts, .inr (2, [.ref (uParts 0), .ref (uParts 1), .int 0, .ref (uParts 2), .ref (uParts 3), .ref (uParts 4), .ref (uParts 5), .ref (uParts 6)])), (uParts 0, .inl (cA .int, 50, .inl (fun _ => 0))), (uParts 1, .inl (cA .int, 50, .inl (fun _ => 0))), (uParts 2, .inl (cA .int, 500, .inl (fun _ => 0))), (uParts 3, .inl (cA .int, 40, .inl (fun _ => 0))), (uParts 4, .inl (cA .int, 10, .inl (fun _ => 0))), (uParts 5, .inl (cA .int, 10, .inl (fun _ => 0))), (uParts 6, .inl (cA .int, 10, .inl (fun _ => 0))), (qS, .inl (cA .int, 61, .inl (fun _ => 0)))] H := hP
  have hD : va_D A [(h0, .inr (3, [.ref qGraph, .ref qNet, .ref qParts, .null, .null, .null, .null, .int 0, .int 0, .int 0, .int 0, .int 0])), (qGraph, .inr (0, [.ref (uGraph 0), .ref (uGraph 1), .ref (uGraph 2), .ref (uGraph 3), .ref (uGraph 4), .ref (uGraph 5), .ref (uGraph 6), .int 0, .int 0, .int 0])), (uGraph 0, .inl (cA .int, 10, .inl (fun _ => 0))), (uGraph 1, .inl (cA .int, 10, .inl (fun _ => 0))), (uGraph 2, .inl (cA .int, 40, .inl (fun _ => 0))), (uGraph 3, .inl (cA .int, 40, .inl (fun _ => 0))), (uGraph 4, .inl (cA .int, 40, .inl (fun _ => 0))), (uGraph 5, .inl (cA .int, 40, .inl (fun _ => 0))), (uGraph 6, .inl (cA .boolean, 40, .inl (fun _ => 0))), (qNet, .inr (1, [.ref (uNet 0), .ref (uNet 1), .ref (uNet 2), .ref (uNet 3), .ref (uNet 4), .ref (uNet 5), .ref (uNet 6), .ref (uNet 7), .ref (uNet 8), .ref (uNet 9)])), (uNet 0, .inl (cA .int, 61, .inl (fun _ => 0))), (uNet 1, .inl (cA .int, 61, .inl (fun _ => 0))), (uNet 2, .inl (cA .int, 61, .inl (fun _ => 0))), (uNet 3, .inl (cA .int, 61, .inl (fun _ => 0))), (uNet 4, .inl (cA .int, 61, .inl (fun _ => 0))), (uNet 5, .inl (cA .boolean, 61, .inl (fun _ => 0))), (uNet 6, .inl (cA .int, 924, .inl (fun _ => 0))), (uNet 7, .inl (cA .int, 22, .inl (fun _ => 0))), (uNet 8, .inl (cA .int, 22, .inl (fun _ => 0))), (uNet 9, .inl (cA .int, 22, .inl (fun _ => 0))), (qParts, .inr (2, [.ref (uParts 0), .ref (uParts 1), .int 0, .ref (uParts 2), .ref (uParts 3), .ref (uParts 4), .ref (uParts 5), .ref (uParts 6)])), (uParts 0, .inl (cA .int, 50, .inl (fun _ => 0))), (uParts 1, .inl (cA .int, 50, .inl (fun _ => 0))), (uParts 2, .inl (cA .int, 500, .inl (fun _ => 0))), (uParts 3, .inl (cA .int, 40, .inl (fun _ => 0))), (uParts 4, .inl (cA .int, 10, .inl (fun _ => 0))), (uParts 5, .inl (cA .int, 10, .inl (fun _ => 0))), (uParts 6, .inl (cA .int, 10, .inl (fun _ => 0))), (qS, .inl (cA .int, 61, .inl (fun _ => 0)))] := hD
  refine W.cs (cells' := 28) (slots' := 2335) rfl rfl ?_
  refine va_putF (D := D) (ci := 3) (v := .ref qS) (ty := .array .int) (C := gR3) (T := gT3) (N := 12) hx hb htb gx_lay3 gY3 gY3_ok gN3 hown hK hP hD hS 0 rfl rfl 3 (by decide) (htb _ (show Cond.fieldLink gR3 30 "GreatestFlow" "someFlow" "[I" ∈ gx_TBL from gx_in1 147 rfl rfl)) (fun _ h9 => h9) rfl hin rfl (by decide +kernel) rfl rfl (Nat.le_of_ble_eq_true rfl) (show decode prog_1_method_1_code 42 = .ok (.putfield 30, 3) by decide +kernel) (fun H locs hP hD hS => ?_)
  have hP : va_P D gx_cl [(h0, .inr (3, [.ref qGraph, .ref qNet, .ref qParts, .ref qS, .null, .null, .null, .int 0, .int 0, .int 0, .int 0, .int 0])), (qGraph, .inr (0, [.ref (uGraph 0), .ref (uGraph 1), .ref (uGraph 2), .ref (uGraph 3), .ref (uGraph 4), .ref (uGraph 5), .ref (uGraph 6), .int 0, .int 0, .int 0])), (uGraph 0, .inl (cA .int, 10, .inl (fun _ => 0))), (uGraph 1, .inl (cA .int, 10, .inl (fun _ => 0))), (uGraph 2, .inl (cA .int, 40, .inl (fun _ => 0))), (uGraph 3, .inl (cA .int, 40, .inl (fun _ => 0))), (uGraph 4, .inl (cA .int, 40, .inl (fun _ => 0))), (uGraph 5, .inl (cA .int, 40, .inl (fun _ => 0))), (uGraph 6, .inl (cA .boolean, 40, .inl (fun _ => 0))), (qNet, .inr (1, [.ref (uNet 0), .ref (uNet 1), .ref (uNet 2), .ref (uNet 3), .ref (uNet 4), .ref (uNet 5), .ref (uNet 6), .ref (uNet 7), .ref (uNet 8), .ref (uNet 9)])), (uNet 0, .inl (cA .int, 61, .inl (fun _ => 0))), (uNet 1, .inl (cA .int, 61, .inl (fun _ => 0))), (uNet 2, .inl (cA .int, 61, .inl (fun _ => 0))), (uNet 3, .inl (cA .int, 61, .inl (fun _ => 0))), (uNet 4, .inl (cA .int, 61, .inl (fun _ => 0))), (uNet 5, .inl (cA .boolean, 61, .inl (fun _ => 0))), (uNet 6, .inl (cA .int, 924, .inl (fun _ => 0))), (uNet 7, .inl (cA .int, 22, .inl (fun _ => 0))), (uNet 8, .inl (cA .int, 22, .inl (fun _ => 0))), (uNet 9, .inl (cA .int, 22, .inl (fun _ => 0))), (qParts, .inr (2, [.ref (uParts 0), .ref (uParts 1), .int 0, .ref (uParts 2), .ref (uParts 3), .ref (uParts 4), .ref (uParts 5), .ref (uParts 6)])), (uParts 0, .inl (cA .int, 50, .inl (fun _ => 0))), (uParts 1, .inl (cA .int, 50, .inl (fun _ => 0))), (uParts 2, .inl (cA .int, 500, .inl (fun _ => 0))), (uParts 3, .inl (cA .int, 40, .inl (fun _ => 0))), (uParts 4, .inl (cA .int, 10, .inl (fun _ => 0))), (uParts 5, .inl (cA .int, 10, .inl (fun _ => 0))), (uParts 6, .inl (cA .int, 10, .inl (fun _ => 0))), (qS, .inl (cA .int, 61, .inl (fun _ => 0)))] H := hP
  have hD : va_D A [(h0, .inr (3, [.ref qGraph, .ref qNet, .ref qParts, .ref qS, .null, .null, .null, .int 0, .int 0, .int 0, .int 0, .int 0])), (qGraph, .inr (0, [.ref (uGraph 0), .ref (uGraph 1), .ref (uGraph 2), .ref (uGraph 3), .ref (uGraph 4), .ref (uGraph 5), .ref (uGraph 6), .int 0, .int 0, .int 0])), (uGraph 0, .inl (cA .int, 10, .inl (fun _ => 0))), (uGraph 1, .inl (cA .int, 10, .inl (fun _ => 0))), (uGraph 2, .inl (cA .int, 40, .inl (fun _ => 0))), (uGraph 3, .inl (cA .int, 40, .inl (fun _ => 0))), (uGraph 4, .inl (cA .int, 40, .inl (fun _ => 0))), (uGraph 5, .inl (cA .int, 40, .inl (fun _ => 0))), (uGraph 6, .inl (cA .boolean, 40, .inl (fun _ => 0))), (qNet, .inr (1, [.ref (uNet 0), .ref (uNet 1), .ref (uNet 2), .ref (uNet 3), .ref (uNet 4), .ref (uNet 5), .ref (uNet 6), .ref (uNet 7), .ref (uNet 8), .ref (uNet 9)])), (uNet 0, .inl (cA .int, 61, .inl (fun _ => 0))), (uNet 1, .inl (cA .int, 61, .inl (fun _ => 0))), (uNet 2, .inl (cA .int, 61, .inl (fun _ => 0))), (uNet 3, .inl (cA .int, 61, .inl (fun _ => 0))), (uNet 4, .inl (cA .int, 61, .inl (fun _ => 0))), (uNet 5, .inl (cA .boolean, 61, .inl (fun _ => 0))), (uNet 6, .inl (cA .int, 924, .inl (fun _ => 0))), (uNet 7, .inl (cA .int, 22, .inl (fun _ => 0))), (uNet 8, .inl (cA .int, 22, .inl (fun _ => 0))), (uNet 9, .inl (cA .int, 22, .inl (fun _ => 0))), (qParts, .inr (2, [.ref (uParts 0), .ref (uParts 1), .int 0, .ref (uParts 2), .ref (uParts 3), .ref (uParts 4), .ref (uParts 5), .ref (uParts 6)])), (uParts 0, .inl (cA .int, 50, .inl (fun _ => 0))), (uParts 1, .inl (cA .int, 50, .inl (fun _ => 0))), (uParts 2, .inl (cA .int, 500, .inl (fun _ => 0))), (uParts 3, .inl (cA .int, 40, .inl (fun _ => 0))), (uParts 4, .inl (cA .int, 10, .inl (fun _ => 0))), (uParts 5, .inl (cA .int, 10, .inl (fun _ => 0))), (uParts 6, .inl (cA .int, 10, .inl (fun _ => 0))), (qS, .inl (cA .int, 61, .inl (fun _ => 0)))] := hD
  refine lv_aload_n hx hb (show decode prog_1_method_1_code 45 = .ok (.aload_n 0, 1) by decide +kernel) rfl (lv_at hl 0 rfl) ?_
  refine lv_iconst (v := 2) hx hb (show decode prog_1_method_1_code 46 = .ok (.iconst 2, 1) by decide +kernel) (by decide) ?_
  refine lv_bipush (v := 61) hx hb (show decode prog_1_method_1_code 47 = .ok (.bipush 61, 2) by decide +kernel) (by decide) ?_
  refine va_mna (X := [(h0, .inr (3, [.ref qGraph, .ref qNet, .ref qParts, .ref qS, .null, .null, .null, .int 0, .int 0, .int 0, .int 0, .int 0])), (qGraph, .inr (0, [.ref (uGraph 0), .ref (uGraph 1), .ref (uGraph 2), .ref (uGraph 3), .ref (uGraph 4), .ref (uGraph 5), .ref (uGraph 6), .int 0, .int 0, .int 0])), (uGraph 0, .inl (cA .int, 10, .inl (fun _ => 0))), (uGraph 1, .inl (cA .int, 10, .inl (fun _ => 0))), (uGraph 2, .inl (cA .int, 40, .inl (fun _ => 0))), (uGraph 3, .inl (cA .int, 40, .inl (fun _ => 0))), (uGraph 4, .inl (cA .int, 40, .inl (fun _ => 0))), (uGraph 5, .inl (cA .int, 40, .inl (fun _ => 0))), (uGraph 6, .inl (cA .boolean, 40, .inl (fun _ => 0))), (qNet, .inr (1, [.ref (uNet 0), .ref (uNet 1), .ref (uNet 2), .ref (uNet 3), .ref (uNet 4), .ref (uNet 5), .ref (uNet 6), .ref (uNet 7), .ref (uNet 8), .ref (uNet 9)])), (uNet 0, .inl (cA .int, 61, .inl (fun _ => 0))), (uNet 1, .inl (cA .int, 61, .inl (fun _ => 0))), (uNet 2, .inl (cA .int, 61, .inl (fun _ => 0))), (uNet 3, .inl (cA .int, 61, .inl (fun _ => 0))), (uNet 4, .inl (cA .int, 61, .inl (fun _ => 0))), (uNet 5, .inl (cA .boolean, 61, .inl (fun _ => 0))), (uNet 6, .inl (cA .int, 924, .inl (fun _ => 0))), (uNet 7, .inl (cA .int, 22, .inl (fun _ => 0))), (uNet 8, .inl (cA .int, 22, .inl (fun _ => 0))), (uNet 9, .inl (cA .int, 22, .inl (fun _ => 0))), (qParts, .inr (2, [.ref (uParts 0), .ref (uParts 1), .int 0, .ref (uParts 2), .ref (uParts 3), .ref (uParts 4), .ref (uParts 5), .ref (uParts 6)])), (uParts 0, .inl (cA .int, 50, .inl (fun _ => 0))), (uParts 1, .inl (cA .int, 50, .inl (fun _ => 0))), (uParts 2, .inl (cA .int, 500, .inl (fun _ => 0))), (uParts 3, .inl (cA .int, 40, .inl (fun _ => 0))), (uParts 4, .inl (cA .int, 10, .inl (fun _ => 0))), (uParts 5, .inl (cA .int, 10, .inl (fun _ => 0))), (uParts 6, .inl (cA .int, 10, .inl (fun _ => 0))), (qS, .inl (cA .int, 61, .inl (fun _ => 0)))]) (L := []) (f := fun _ => .inr (0, [])) (ty := .int) (cy := cA .int) (z := (61, .inl (fun _ => 0))) (N' := 2) (K' := 61) hx hb hown (htb _ (show Cond.classLink gR3 34 ("[" ++ (FieldType.array .int).toString) ∈ gx_TBL from gx_in1 142 rfl rfl)) hN4.2.2.2 (htb _ gx_aI) (hK.2 0 _ rfl).2 hK hP hD hS hA (by decide) (by decide) (by decide) (by decide) (by decide) (by decide) (by decide) rfl rfl (Nat.le_of_ble_eq_true rfl) (Nat.le_of_ble_eq_true rfl) (fun cB => by show ({ cls := cB, slots := Array.replicate 61 (.int 0), vm := .none } : Cell) = _; rw [arrV_new]; rfl) (show decode prog_1_method_1_code 49 = .ok (.multianewarray 34 2, 4) by decide +kernel) (fun qF r cB H hr1 hr2 hK2 hP hD hS => ?_)
  have e1 : cB = cA (.array .int) := gx_raA hK cB ((hK2.2 3 _ rfl).2)
  subst e1
  rw [← vr_rows (fun _ _ => List.not_mem_nil), gx_row2] at hP hD
  have hP : va_P D gx_cl [(h0, .inr (3, [.ref qGraph, .ref qNet, .ref qParts, .ref qS, .null, .null, .null, .int 0, .int 0, .int 0, .int 0, .int 0])), (qGraph, .inr (0, [.ref (uGraph 0), .ref (uGraph 1), .ref (uGraph 2), .ref (uGraph 3), .ref (uGraph 4), .ref (uGraph 5), .ref (uGraph 6), .int 0, .int 0, .int 0])), (uGraph 0, .inl (cA .int, 10, .inl (fun _ => 0))), (uGraph 1, .inl (cA .int, 10, .inl (fun _ => 0))), (uGraph 2, .inl (cA .int, 40, .inl (fun _ => 0))), (uGraph 3, .inl (cA .int, 40, .inl (fun _ => 0))), (uGraph 4, .inl (cA .int, 40, .inl (fun _ => 0))), (uGraph 5, .inl (cA .int, 40, .inl (fun _ => 0))), (uGraph 6, .inl (cA .boolean, 40, .inl (fun _ => 0))), (qNet, .inr (1, [.ref (uNet 0), .ref (uNet 1), .ref (uNet 2), .ref (uNet 3), .ref (uNet 4), .ref (uNet 5), .ref (uNet 6), .ref (uNet 7), .ref (uNet 8), .ref (uNet 9)])), (uNet 0, .inl (cA .int, 61, .inl (fun _ => 0))), (uNet 1, .inl (cA .int, 61, .inl (fun _ => 0))), (uNet 2, .inl (cA .int, 61, .inl (fun _ => 0))), (uNet 3, .inl (cA .int, 61, .inl (fun _ => 0))), (uNet 4, .inl (cA .int, 61, .inl (fun _ => 0))), (uNet 5, .inl (cA .boolean, 61, .inl (fun _ => 0))), (uNet 6, .inl (cA .int, 924, .inl (fun _ => 0))), (uNet 7, .inl (cA .int, 22, .inl (fun _ => 0))), (uNet 8, .inl (cA .int, 22, .inl (fun _ => 0))), (uNet 9, .inl (cA .int, 22, .inl (fun _ => 0))), (qParts, .inr (2, [.ref (uParts 0), .ref (uParts 1), .int 0, .ref (uParts 2), .ref (uParts 3), .ref (uParts 4), .ref (uParts 5), .ref (uParts 6)])), (uParts 0, .inl (cA .int, 50, .inl (fun _ => 0))), (uParts 1, .inl (cA .int, 50, .inl (fun _ => 0))), (uParts 2, .inl (cA .int, 500, .inl (fun _ => 0))), (uParts 3, .inl (cA .int, 40, .inl (fun _ => 0))), (uParts 4, .inl (cA .int, 10, .inl (fun _ => 0))), (uParts 5, .inl (cA .int, 10, .inl (fun _ => 0))), (uParts 6, .inl (cA .int, 10, .inl (fun _ => 0))), (qS, .inl (cA .int, 61, .inl (fun _ => 0))), (qF, .inl (cA (.array .int), 2, .inr (.inr (.inr (.inr (fun i : Nat => ([r 0, r 1] : List Nat)[i]?)))))), (r 0, .inl (cA .int, 61, .inl (fun _ => 0))), (r 1, .inl (cA .int, 61, .inl (fun _ => 0)))] H := hP
  have hD : va_D A [(h0, .inr (3, [.ref qGraph, .ref qNet, .ref qParts, .ref qS, .null, .null, .null, .int 0, .int 0, .int 0, .int 0, .int 0])), (qGraph, .inr (0, [.ref (uGraph 0), .ref (uGraph 1), .ref (uGraph 2), .ref (uGraph 3), .ref (uGraph 4), .ref (uGraph 5), .ref (uGraph 6), .int 0, .int 0, .int 0])), (uGraph 0, .inl (cA .int, 10, .inl (fun _ => 0))), (uGraph 1, .inl (cA .int, 10, .inl (fun _ => 0))), (uGraph 2, .inl (cA .int, 40, .inl (fun _ => 0))), (uGraph 3, .inl (cA .int, 40, .inl (fun _ => 0))), (uGraph 4, .inl (cA .int, 40, .inl (fun _ => 0))), (uGraph 5, .inl (cA .int, 40, .inl (fun _ => 0))), (uGraph 6, .inl (cA .boolean, 40, .inl (fun _ => 0))), (qNet, .inr (1, [.ref (uNet 0), .ref (uNet 1), .ref (uNet 2), .ref (uNet 3), .ref (uNet 4), .ref (uNet 5), .ref (uNet 6), .ref (uNet 7), .ref (uNet 8), .ref (uNet 9)])), (uNet 0, .inl (cA .int, 61, .inl (fun _ => 0))), (uNet 1, .inl (cA .int, 61, .inl (fun _ => 0))), (uNet 2, .inl (cA .int, 61, .inl (fun _ => 0))), (uNet 3, .inl (cA .int, 61, .inl (fun _ => 0))), (uNet 4, .inl (cA .int, 61, .inl (fun _ => 0))), (uNet 5, .inl (cA .boolean, 61, .inl (fun _ => 0))), (uNet 6, .inl (cA .int, 924, .inl (fun _ => 0))), (uNet 7, .inl (cA .int, 22, .inl (fun _ => 0))), (uNet 8, .inl (cA .int, 22, .inl (fun _ => 0))), (uNet 9, .inl (cA .int, 22, .inl (fun _ => 0))), (qParts, .inr (2, [.ref (uParts 0), .ref (uParts 1), .int 0, .ref (uParts 2), .ref (uParts 3), .ref (uParts 4), .ref (uParts 5), .ref (uParts 6)])), (uParts 0, .inl (cA .int, 50, .inl (fun _ => 0))), (uParts 1, .inl (cA .int, 50, .inl (fun _ => 0))), (uParts 2, .inl (cA .int, 500, .inl (fun _ => 0))), (uParts 3, .inl (cA .int, 40, .inl (fun _ => 0))), (uParts 4, .inl (cA .int, 10, .inl (fun _ => 0))), (uParts 5, .inl (cA .int, 10, .inl (fun _ => 0))), (uParts 6, .inl (cA .int, 10, .inl (fun _ => 0))), (qS, .inl (cA .int, 61, .inl (fun _ => 0))), (qF, .inl (cA (.array .int), 2, .inr (.inr (.inr (.inr (fun i : Nat => ([r 0, r 1] : List Nat)[i]?)))))), (r 0, .inl (cA .int, 61, .inl (fun _ => 0))), (r 1, .inl (cA .int, 61, .inl (fun _ => 0)))] := hD
  refine W.cs (cells' := 31) (slots' := 2459) rfl rfl ?_
  refine va_putF (D := D) (ci := 3) (v := .ref qF) (ty := .array (.array .int)) (C := gR3) (T := gT3) (N := 12) hx hb htb gx_lay3 gY3 gY3_ok gN3 hown hK hP hD hS 0 rfl rfl 4 (by decide) (htb _ (show Cond.fieldLink gR3 36 "GreatestFlow" "firstFlow" "[[I" ∈ gx_TBL from gx_in1 148 rfl rfl)) (fun _ h9 => h9) rfl hin rfl (by decide +kernel) rfl rfl (Nat.le_of_ble_eq_true rfl) (show decode prog_1_method_1_code 53 = .ok (.putfield 36, 3) by decide +kernel) (fun H locs hP hD hS => ?_)
  have hP : va_P D gx_cl [(h0, .inr (3, [.ref qGraph, .ref qNet, .ref qParts, .ref qS, .ref qF, .null, .null, .int 0, .int 0, .int 0, .int 0, .int 0])), (qGraph, .inr (0, [.ref (uGraph 0), .ref (uGraph 1), .ref (uGraph 2), .ref (uGraph 3), .ref (uGraph 4), .ref (uGraph 5), .ref (uGraph 6), .int 0, .int 0, .int 0])), (uGraph 0, .inl (cA .int, 10, .inl (fun _ => 0))), (uGraph 1, .inl (cA .int, 10, .inl (fun _ => 0))), (uGraph 2, .inl (cA .int, 40, .inl (fun _ => 0))), (uGraph 3, .inl (cA .int, 40, .inl (fun _ => 0))), (uGraph 4, .inl (cA .int, 40, .inl (fun _ => 0))), (uGraph 5, .inl (cA .int, 40, .inl (fun _ => 0))), (uGraph 6, .inl (cA .boolean, 40, .inl (fun _ => 0))), (qNet, .inr (1, [.ref (uNet 0), .ref (uNet 1), .ref (uNet 2), .ref (uNet 3), .ref (uNet 4), .ref (uNet 5), .ref (uNet 6), .ref (uNet 7), .ref (uNet 8), .ref (uNet 9)])), (uNet 0, .inl (cA .int, 61, .inl (fun _ => 0))), (uNet 1, .inl (cA .int, 61, .inl (fun _ => 0))), (uNet 2, .inl (cA .int, 61, .inl (fun _ => 0))), (uNet 3, .inl (cA .int, 61, .inl (fun _ => 0))), (uNet 4, .inl (cA .int, 61, .inl (fun _ => 0))), (uNet 5, .inl (cA .boolean, 61, .inl (fun _ => 0))), (uNet 6, .inl (cA .int, 924, .inl (fun _ => 0))), (uNet 7, .inl (cA .int, 22, .inl (fun _ => 0))), (uNet 8, .inl (cA .int, 22, .inl (fun _ => 0))), (uNet 9, .inl (cA .int, 22, .inl (fun _ => 0))), (qParts, .inr (2, [.ref (uParts 0), .ref (uParts 1), .int 0, .ref (uParts 2), .ref (uParts 3), .ref (uParts 4), .ref (uParts 5), .ref (uParts 6)])), (uParts 0, .inl (cA .int, 50, .inl (fun _ => 0))), (uParts 1, .inl (cA .int, 50, .inl (fun _ => 0))), (uParts 2, .inl (cA .int, 500, .inl (fun _ => 0))), (uParts 3, .inl (cA .int, 40, .inl (fun _ => 0))), (uParts 4, .inl (cA .int, 10, .inl (fun _ => 0))), (uParts 5, .inl (cA .int, 10, .inl (fun _ => 0))), (uParts 6, .inl (cA .int, 10, .inl (fun _ => 0))), (qS, .inl (cA .int, 61, .inl (fun _ => 0))), (qF, .inl (cA (.array .int), 2, .inr (.inr (.inr (.inr (fun i : Nat => ([r 0, r 1] : List Nat)[i]?)))))), (r 0, .inl (cA .int, 61, .inl (fun _ => 0))), (r 1, .inl (cA .int, 61, .inl (fun _ => 0)))] H := hP
  have hD : va_D A [(h0, .inr (3, [.ref qGraph, .ref qNet, .ref qParts, .ref qS, .ref qF, .null, .null, .int 0, .int 0, .int 0, .int 0, .int 0])), (qGraph, .inr (0, [.ref (uGraph 0), .ref (uGraph 1), .ref (uGraph 2), .ref (uGraph 3), .ref (uGraph 4), .ref (uGraph 5), .ref (uGraph 6), .int 0, .int 0, .int 0])), (uGraph 0, .inl (cA .int, 10, .inl (fun _ => 0))), (uGraph 1, .inl (cA .int, 10, .inl (fun _ => 0))), (uGraph 2, .inl (cA .int, 40, .inl (fun _ => 0))), (uGraph 3, .inl (cA .int, 40, .inl (fun _ => 0))), (uGraph 4, .inl (cA .int, 40, .inl (fun _ => 0))), (uGraph 5, .inl (cA .int, 40, .inl (fun _ => 0))), (uGraph 6, .inl (cA .boolean, 40, .inl (fun _ => 0))), (qNet, .inr (1, [.ref (uNet 0), .ref (uNet 1), .ref (uNet 2), .ref (uNet 3), .ref (uNet 4), .ref (uNet 5), .ref (uNet 6), .ref (uNet 7), .ref (uNet 8), .ref (uNet 9)])), (uNet 0, .inl (cA .int, 61, .inl (fun _ => 0))), (uNet 1, .inl (cA .int, 61, .inl (fun _ => 0))), (uNet 2, .inl (cA .int, 61, .inl (fun _ => 0))), (uNet 3, .inl (cA .int, 61, .inl (fun _ => 0))), (uNet 4, .inl (cA .int, 61, .inl (fun _ => 0))), (uNet 5, .inl (cA .boolean, 61, .inl (fun _ => 0))), (uNet 6, .inl (cA .int, 924, .inl (fun _ => 0))), (uNet 7, .inl (cA .int, 22, .inl (fun _ => 0))), (uNet 8, .inl (cA .int, 22, .inl (fun _ => 0))), (uNet 9, .inl (cA .int, 22, .inl (fun _ => 0))), (qParts, .inr (2, [.ref (uParts 0), .ref (uParts 1), .int 0, .ref (uParts 2), .ref (uParts 3), .ref (uParts 4), .ref (uParts 5), .ref (uParts 6)])), (uParts 0, .inl (cA .int, 50, .inl (fun _ => 0))), (uParts 1, .inl (cA .int, 50, .inl (fun _ => 0))), (uParts 2, .inl (cA .int, 500, .inl (fun _ => 0))), (uParts 3, .inl (cA .int, 40, .inl (fun _ => 0))), (uParts 4, .inl (cA .int, 10, .inl (fun _ => 0))), (uParts 5, .inl (cA .int, 10, .inl (fun _ => 0))), (uParts 6, .inl (cA .int, 10, .inl (fun _ => 0))), (qS, .inl (cA .int, 61, .inl (fun _ => 0))), (qF, .inl (cA (.array .int), 2, .inr (.inr (.inr (.inr (fun i : Nat => ([r 0, r 1] : List Nat)[i]?)))))), (r 0, .inl (cA .int, 61, .inl (fun _ => 0))), (r 1, .inl (cA .int, 61, .inl (fun _ => 0)))] := hD
  refine lv_aload_n hx hb (show decode prog_1_method_1_code 56 = .ok (.aload_n 0, 1) by decide +kernel) rfl (lv_at hl 0 rfl) ?_
  refine lv_iconst (v := 2) hx hb (show decode prog_1_method_1_code 57 = .ok (.iconst 2, 1) by decide +kernel) (by decide) ?_
  refine gx_na (cA := cA) hx hb (ty := .boolean) rfl (htb _ gx_aZ) rfl (gx_raZ hK) hK hP hD hS hA 2 (by decide) (by decide) (by decide) (Nat.le_of_ble_eq_true rfl) (Nat.le_of_ble_eq_true rfl) (show decode prog_1_method_1_code 58 = .ok (.newarray .boolean, 2) by decide +kernel) (fun qK H hP hD hS => ?_)
  have hP : va_P D gx_cl [(h0, .inr (3, [.ref qGraph, .ref qNet, .ref qParts, .ref qS, .ref qF, .null, .null, .int 0, .int 0, .int 0, .int 0, .int 0])), (qGraph, .inr (0, [.ref (uGraph 0), .ref (uGraph 1), .ref (uGraph 2), .ref (uGraph 3), .ref (uGraph 4), .ref (uGraph 5), .ref (uGraph 6), .int 0, .int 0, .int 0])), (uGraph 0, .inl (cA .int, 10, .inl (fun _ => 0))), (uGraph 1, .inl (cA .int, 10, .inl (fun _ => 0))), (uGraph 2, .inl (cA .int, 40, .inl (fun _ => 0))), (uGraph 3, .inl (cA .int, 40, .inl (fun _ => 0))), (uGraph 4, .inl (cA .int, 40, .inl (fun _ => 0))), (uGraph 5, .inl (cA .int, 40, .inl (fun _ => 0))), (uGraph 6, .inl (cA .boolean, 40, .inl (fun _ => 0))), (qNet, .inr (1, [.ref (uNet 0), .ref (uNet 1), .ref (uNet 2), .ref (uNet 3), .ref (uNet 4), .ref (uNet 5), .ref (uNet 6), .ref (uNet 7), .ref (uNet 8), .ref (uNet 9)])), (uNet 0, .inl (cA .int, 61, .inl (fun _ => 0))), (uNet 1, .inl (cA .int, 61, .inl (fun _ => 0))), (uNet 2, .inl (cA .int, 61, .inl (fun _ => 0))), (uNet 3, .inl (cA .int, 61, .inl (fun _ => 0))), (uNet 4, .inl (cA .int, 61, .inl (fun _ => 0))), (uNet 5, .inl (cA .boolean, 61, .inl (fun _ => 0))), (uNet 6, .inl (cA .int, 924, .inl (fun _ => 0))), (uNet 7, .inl (cA .int, 22, .inl (fun _ => 0))), (uNet 8, .inl (cA .int, 22, .inl (fun _ => 0))), (uNet 9, .inl (cA .int, 22, .inl (fun _ => 0))), (qParts, .inr (2, [.ref (uParts 0), .ref (uParts 1), .int 0, .ref (uParts 2), .ref (uParts 3), .ref (uParts 4), .ref (uParts 5), .ref (uParts 6)])), (uParts 0, .inl (cA .int, 50, .inl (fun _ => 0))), (uParts 1, .inl (cA .int, 50, .inl (fun _ => 0))), (uParts 2, .inl (cA .int, 500, .inl (fun _ => 0))), (uParts 3, .inl (cA .int, 40, .inl (fun _ => 0))), (uParts 4, .inl (cA .int, 10, .inl (fun _ => 0))), (uParts 5, .inl (cA .int, 10, .inl (fun _ => 0))), (uParts 6, .inl (cA .int, 10, .inl (fun _ => 0))), (qS, .inl (cA .int, 61, .inl (fun _ => 0))), (qF, .inl (cA (.array .int), 2, .inr (.inr (.inr (.inr (fun i : Nat => ([r 0, r 1] : List Nat)[i]?)))))), (r 0, .inl (cA .int, 61, .inl (fun _ => 0))), (r 1, .inl (cA .int, 61, .inl (fun _ => 0))), (qK, .inl (cA .boolean, 2, .inl (fun _ => 0)))] H := hP
  have hD : va_D A [(h0, .inr (3, [.ref qGraph, .ref qNet, .ref qParts, .ref qS, .ref qF, .null, .null, .int 0, .int 0, .int 0, .int 0, .int 0])), (qGraph, .inr (0, [.ref (uGraph 0), .ref (uGraph 1), .ref (uGraph 2), .ref (uGraph 3), .ref (uGraph 4), .ref (uGraph 5), .ref (uGraph 6), .int 0, .int 0, .int 0])), (uGraph 0, .inl (cA .int, 10, .inl (fun _ => 0))), (uGraph 1, .inl (cA .int, 10, .inl (fun _ => 0))), (uGraph 2, .inl (cA .int, 40, .inl (fun _ => 0))), (uGraph 3, .inl (cA .int, 40, .inl (fun _ => 0))), (uGraph 4, .inl (cA .int, 40, .inl (fun _ => 0))), (uGraph 5, .inl (cA .int, 40, .inl (fun _ => 0))), (uGraph 6, .inl (cA .boolean, 40, .inl (fun _ => 0))), (qNet, .inr (1, [.ref (uNet 0), .ref (uNet 1), .ref (uNet 2), .ref (uNet 3), .ref (uNet 4), .ref (uNet 5), .ref (uNet 6), .ref (uNet 7), .ref (uNet 8), .ref (uNet 9)])), (uNet 0, .inl (cA .int, 61, .inl (fun _ => 0))), (uNet 1, .inl (cA .int, 61, .inl (fun _ => 0))), (uNet 2, .inl (cA .int, 61, .inl (fun _ => 0))), (uNet 3, .inl (cA .int, 61, .inl (fun _ => 0))), (uNet 4, .inl (cA .int, 61, .inl (fun _ => 0))), (uNet 5, .inl (cA .boolean, 61, .inl (fun _ => 0))), (uNet 6, .inl (cA .int, 924, .inl (fun _ => 0))), (uNet 7, .inl (cA .int, 22, .inl (fun _ => 0))), (uNet 8, .inl (cA .int, 22, .inl (fun _ => 0))), (uNet 9, .inl (cA .int, 22, .inl (fun _ => 0))), (qParts, .inr (2, [.ref (uParts 0), .ref (uParts 1), .int 0, .ref (uParts 2), .ref (uParts 3), .ref (uParts 4), .ref (uParts 5), .ref (uParts 6)])), (uParts 0, .inl (cA .int, 50, .inl (fun _ => 0))), (uParts 1, .inl (cA .int, 50, .inl (fun _ => 0))), (uParts 2, .inl (cA .int, 500, .inl (fun _ => 0))), (uParts 3, .inl (cA .int, 40, .inl (fun _ => 0))), (uParts 4, .inl (cA .int, 10, .inl (fun _ => 0))), (uParts 5, .inl (cA .int, 10, .inl (fun _ => 0))), (uParts 6, .inl (cA .int, 10, .inl (fun _ => 0))), (qS, .inl (cA .int, 61, .inl (fun _ => 0))), (qF, .inl (cA (.array .int), 2, .inr (.inr (.inr (.inr (fun i : Nat => ([r 0, r 1] : List Nat)[i]?)))))), (r 0, .inl (cA .int, 61, .inl (fun _ => 0))), (r 1, .inl (cA .int, 61, .inl (fun _ => 0))), (qK, .inl (cA .boolean, 2, .inl (fun _ => 0)))] := hD
  refine W.cs (cells' := 32) (slots' := 2461) rfl rfl ?_
  refine va_putF (D := D) (ci := 3) (v := .ref qK) (ty := .array .boolean) (C := gR3) (T := gT3) (N := 12) hx hb htb gx_lay3 gY3 gY3_ok gN3 hown hK hP hD hS 0 rfl rfl 5 (by decide) (htb _ (show Cond.fieldLink gR3 39 "GreatestFlow" "firstKnown" "[Z" ∈ gx_TBL from gx_in1 149 rfl rfl)) (fun _ h9 => h9) rfl hin rfl (by decide +kernel) rfl rfl (Nat.le_of_ble_eq_true rfl) (show decode prog_1_method_1_code 60 = .ok (.putfield 39, 3) by decide +kernel) (fun H locs hP hD hS => ?_)
  have hP : va_P D gx_cl [(h0, .inr (3, [.ref qGraph, .ref qNet, .ref qParts, .ref qS, .ref qF, .ref qK, .null, .int 0, .int 0, .int 0, .int 0, .int 0])), (qGraph, .inr (0, [.ref (uGraph 0), .ref (uGraph 1), .ref (uGraph 2), .ref (uGraph 3), .ref (uGraph 4), .ref (uGraph 5), .ref (uGraph 6), .int 0, .int 0, .int 0])), (uGraph 0, .inl (cA .int, 10, .inl (fun _ => 0))), (uGraph 1, .inl (cA .int, 10, .inl (fun _ => 0))), (uGraph 2, .inl (cA .int, 40, .inl (fun _ => 0))), (uGraph 3, .inl (cA .int, 40, .inl (fun _ => 0))), (uGraph 4, .inl (cA .int, 40, .inl (fun _ => 0))), (uGraph 5, .inl (cA .int, 40, .inl (fun _ => 0))), (uGraph 6, .inl (cA .boolean, 40, .inl (fun _ => 0))), (qNet, .inr (1, [.ref (uNet 0), .ref (uNet 1), .ref (uNet 2), .ref (uNet 3), .ref (uNet 4), .ref (uNet 5), .ref (uNet 6), .ref (uNet 7), .ref (uNet 8), .ref (uNet 9)])), (uNet 0, .inl (cA .int, 61, .inl (fun _ => 0))), (uNet 1, .inl (cA .int, 61, .inl (fun _ => 0))), (uNet 2, .inl (cA .int, 61, .inl (fun _ => 0))), (uNet 3, .inl (cA .int, 61, .inl (fun _ => 0))), (uNet 4, .inl (cA .int, 61, .inl (fun _ => 0))), (uNet 5, .inl (cA .boolean, 61, .inl (fun _ => 0))), (uNet 6, .inl (cA .int, 924, .inl (fun _ => 0))), (uNet 7, .inl (cA .int, 22, .inl (fun _ => 0))), (uNet 8, .inl (cA .int, 22, .inl (fun _ => 0))), (uNet 9, .inl (cA .int, 22, .inl (fun _ => 0))), (qParts, .inr (2, [.ref (uParts 0), .ref (uParts 1), .int 0, .ref (uParts 2), .ref (uParts 3), .ref (uParts 4), .ref (uParts 5), .ref (uParts 6)])), (uParts 0, .inl (cA .int, 50, .inl (fun _ => 0))), (uParts 1, .inl (cA .int, 50, .inl (fun _ => 0))), (uParts 2, .inl (cA .int, 500, .inl (fun _ => 0))), (uParts 3, .inl (cA .int, 40, .inl (fun _ => 0))), (uParts 4, .inl (cA .int, 10, .inl (fun _ => 0))), (uParts 5, .inl (cA .int, 10, .inl (fun _ => 0))), (uParts 6, .inl (cA .int, 10, .inl (fun _ => 0))), (qS, .inl (cA .int, 61, .inl (fun _ => 0))), (qF, .inl (cA (.array .int), 2, .inr (.inr (.inr (.inr (fun i : Nat => ([r 0, r 1] : List Nat)[i]?)))))), (r 0, .inl (cA .int, 61, .inl (fun _ => 0))), (r 1, .inl (cA .int, 61, .inl (fun _ => 0))), (qK, .inl (cA .boolean, 2, .inl (fun _ => 0)))] H := hP
  have hD : va_D A [(h0, .inr (3, [.ref qGraph, .ref qNet, .ref qParts, .ref qS, .ref qF, .ref qK, .null, .int 0, .int 0, .int 0, .int 0, .int 0])), (qGraph, .inr (0, [.ref (uGraph 0), .ref (uGraph 1), .ref (uGraph 2), .ref (uGraph 3), .ref (uGraph 4), .ref (uGraph 5), .ref (uGraph 6), .int 0, .int 0, .int 0])), (uGraph 0, .inl (cA .int, 10, .inl (fun _ => 0))), (uGraph 1, .inl (cA .int, 10, .inl (fun _ => 0))), (uGraph 2, .inl (cA .int, 40, .inl (fun _ => 0))), (uGraph 3, .inl (cA .int, 40, .inl (fun _ => 0))), (uGraph 4, .inl (cA .int, 40, .inl (fun _ => 0))), (uGraph 5, .inl (cA .int, 40, .inl (fun _ => 0))), (uGraph 6, .inl (cA .boolean, 40, .inl (fun _ => 0))), (qNet, .inr (1, [.ref (uNet 0), .ref (uNet 1), .ref (uNet 2), .ref (uNet 3), .ref (uNet 4), .ref (uNet 5), .ref (uNet 6), .ref (uNet 7), .ref (uNet 8), .ref (uNet 9)])), (uNet 0, .inl (cA .int, 61, .inl (fun _ => 0))), (uNet 1, .inl (cA .int, 61, .inl (fun _ => 0))), (uNet 2, .inl (cA .int, 61, .inl (fun _ => 0))), (uNet 3, .inl (cA .int, 61, .inl (fun _ => 0))), (uNet 4, .inl (cA .int, 61, .inl (fun _ => 0))), (uNet 5, .inl (cA .boolean, 61, .inl (fun _ => 0))), (uNet 6, .inl (cA .int, 924, .inl (fun _ => 0))), (uNet 7, .inl (cA .int, 22, .inl (fun _ => 0))), (uNet 8, .inl (cA .int, 22, .inl (fun _ => 0))), (uNet 9, .inl (cA .int, 22, .inl (fun _ => 0))), (qParts, .inr (2, [.ref (uParts 0), .ref (uParts 1), .int 0, .ref (uParts 2), .ref (uParts 3), .ref (uParts 4), .ref (uParts 5), .ref (uParts 6)])), (uParts 0, .inl (cA .int, 50, .inl (fun _ => 0))), (uParts 1, .inl (cA .int, 50, .inl (fun _ => 0))), (uParts 2, .inl (cA .int, 500, .inl (fun _ => 0))), (uParts 3, .inl (cA .int, 40, .inl (fun _ => 0))), (uParts 4, .inl (cA .int, 10, .inl (fun _ => 0))), (uParts 5, .inl (cA .int, 10, .inl (fun _ => 0))), (uParts 6, .inl (cA .int, 10, .inl (fun _ => 0))), (qS, .inl (cA .int, 61, .inl (fun _ => 0))), (qF, .inl (cA (.array .int), 2, .inr (.inr (.inr (.inr (fun i : Nat => ([r 0, r 1] : List Nat)[i]?)))))), (r 0, .inl (cA .int, 61, .inl (fun _ => 0))), (r 1, .inl (cA .int, 61, .inl (fun _ => 0))), (qK, .inl (cA .boolean, 2, .inl (fun _ => 0)))] := hD
  refine lv_aload_n hx hb (show decode prog_1_method_1_code 63 = .ok (.aload_n 0, 1) by decide +kernel) rfl (lv_at hl 0 rfl) ?_
  refine lv_bipush (v := 40) hx hb (show decode prog_1_method_1_code 64 = .ok (.bipush 40, 2) by decide +kernel) (by decide) ?_
  refine gx_na (cA := cA) hx hb (ty := .int) rfl (htb _ gx_aI) rfl (gx_raI hK) hK hP hD hS hA 40 (by decide) (by decide) (by decide) (Nat.le_of_ble_eq_true rfl) (Nat.le_of_ble_eq_true rfl) (show decode prog_1_method_1_code 66 = .ok (.newarray .int, 2) by decide +kernel) (fun qB H hP hD hS => ?_)
  have hP : va_P D gx_cl [(h0, .inr (3, [.ref qGraph, .ref qNet, .ref qParts, .ref qS, .ref qF, .ref qK, .null, .int 0, .int 0, .int 0, .int 0, .int 0])), (qGraph, .inr (0, [.ref (uGraph 0), .ref (uGraph 1), .ref (uGraph 2), .ref (uGraph 3), .ref (uGraph 4), .ref (uGraph 5), .ref (uGraph 6), .int 0, .int 0, .int 0])), (uGraph 0, .inl (cA .int, 10, .inl (fun _ => 0))), (uGraph 1, .inl (cA .int, 10, .inl (fun _ => 0))), (uGraph 2, .inl (cA .int, 40, .inl (fun _ => 0))), (uGraph 3, .inl (cA .int, 40, .inl (fun _ => 0))), (uGraph 4, .inl (cA .int, 40, .inl (fun _ => 0))), (uGraph 5, .inl (cA .int, 40, .inl (fun _ => 0))), (uGraph 6, .inl (cA .boolean, 40, .inl (fun _ => 0))), (qNet, .inr (1, [.ref (uNet 0), .ref (uNet 1), .ref (uNet 2), .ref (uNet 3), .ref (uNet 4), .ref (uNet 5), .ref (uNet 6), .ref (uNet 7), .ref (uNet 8), .ref (uNet 9)])), (uNet 0, .inl (cA .int, 61, .inl (fun _ => 0))), (uNet 1, .inl (cA .int, 61, .inl (fun _ => 0))), (uNet 2, .inl (cA .int, 61, .inl (fun _ => 0))), (uNet 3, .inl (cA .int, 61, .inl (fun _ => 0))), (uNet 4, .inl (cA .int, 61, .inl (fun _ => 0))), (uNet 5, .inl (cA .boolean, 61, .inl (fun _ => 0))), (uNet 6, .inl (cA .int, 924, .inl (fun _ => 0))), (uNet 7, .inl (cA .int, 22, .inl (fun _ => 0))), (uNet 8, .inl (cA .int, 22, .inl (fun _ => 0))), (uNet 9, .inl (cA .int, 22, .inl (fun _ => 0))), (qParts, .inr (2, [.ref (uParts 0), .ref (uParts 1), .int 0, .ref (uParts 2), .ref (uParts 3), .ref (uParts 4), .ref (uParts 5), .ref (uParts 6)])), (uParts 0, .inl (cA .int, 50, .inl (fun _ => 0))), (uParts 1, .inl (cA .int, 50, .inl (fun _ => 0))), (uParts 2, .inl (cA .int, 500, .inl (fun _ => 0))), (uParts 3, .inl (cA .int, 40, .inl (fun _ => 0))), (uParts 4, .inl (cA .int, 10, .inl (fun _ => 0))), (uParts 5, .inl (cA .int, 10, .inl (fun _ => 0))), (uParts 6, .inl (cA .int, 10, .inl (fun _ => 0))), (qS, .inl (cA .int, 61, .inl (fun _ => 0))), (qF, .inl (cA (.array .int), 2, .inr (.inr (.inr (.inr (fun i : Nat => ([r 0, r 1] : List Nat)[i]?)))))), (r 0, .inl (cA .int, 61, .inl (fun _ => 0))), (r 1, .inl (cA .int, 61, .inl (fun _ => 0))), (qK, .inl (cA .boolean, 2, .inl (fun _ => 0))), (qB, .inl (cA .int, 40, .inl (fun _ => 0)))] H := hP
  have hD : va_D A [(h0, .inr (3, [.ref qGraph, .ref qNet, .ref qParts, .ref qS, .ref qF, .ref qK, .null, .int 0, .int 0, .int 0, .int 0, .int 0])), (qGraph, .inr (0, [.ref (uGraph 0), .ref (uGraph 1), .ref (uGraph 2), .ref (uGraph 3), .ref (uGraph 4), .ref (uGraph 5), .ref (uGraph 6), .int 0, .int 0, .int 0])), (uGraph 0, .inl (cA .int, 10, .inl (fun _ => 0))), (uGraph 1, .inl (cA .int, 10, .inl (fun _ => 0))), (uGraph 2, .inl (cA .int, 40, .inl (fun _ => 0))), (uGraph 3, .inl (cA .int, 40, .inl (fun _ => 0))), (uGraph 4, .inl (cA .int, 40, .inl (fun _ => 0))), (uGraph 5, .inl (cA .int, 40, .inl (fun _ => 0))), (uGraph 6, .inl (cA .boolean, 40, .inl (fun _ => 0))), (qNet, .inr (1, [.ref (uNet 0), .ref (uNet 1), .ref (uNet 2), .ref (uNet 3), .ref (uNet 4), .ref (uNet 5), .ref (uNet 6), .ref (uNet 7), .ref (uNet 8), .ref (uNet 9)])), (uNet 0, .inl (cA .int, 61, .inl (fun _ => 0))), (uNet 1, .inl (cA .int, 61, .inl (fun _ => 0))), (uNet 2, .inl (cA .int, 61, .inl (fun _ => 0))), (uNet 3, .inl (cA .int, 61, .inl (fun _ => 0))), (uNet 4, .inl (cA .int, 61, .inl (fun _ => 0))), (uNet 5, .inl (cA .boolean, 61, .inl (fun _ => 0))), (uNet 6, .inl (cA .int, 924, .inl (fun _ => 0))), (uNet 7, .inl (cA .int, 22, .inl (fun _ => 0))), (uNet 8, .inl (cA .int, 22, .inl (fun _ => 0))), (uNet 9, .inl (cA .int, 22, .inl (fun _ => 0))), (qParts, .inr (2, [.ref (uParts 0), .ref (uParts 1), .int 0, .ref (uParts 2), .ref (uParts 3), .ref (uParts 4), .ref (uParts 5), .ref (uParts 6)])), (uParts 0, .inl (cA .int, 50, .inl (fun _ => 0))), (uParts 1, .inl (cA .int, 50, .inl (fun _ => 0))), (uParts 2, .inl (cA .int, 500, .inl (fun _ => 0))), (uParts 3, .inl (cA .int, 40, .inl (fun _ => 0))), (uParts 4, .inl (cA .int, 10, .inl (fun _ => 0))), (uParts 5, .inl (cA .int, 10, .inl (fun _ => 0))), (uParts 6, .inl (cA .int, 10, .inl (fun _ => 0))), (qS, .inl (cA .int, 61, .inl (fun _ => 0))), (qF, .inl (cA (.array .int), 2, .inr (.inr (.inr (.inr (fun i : Nat => ([r 0, r 1] : List Nat)[i]?)))))), (r 0, .inl (cA .int, 61, .inl (fun _ => 0))), (r 1, .inl (cA .int, 61, .inl (fun _ => 0))), (qK, .inl (cA .boolean, 2, .inl (fun _ => 0))), (qB, .inl (cA .int, 40, .inl (fun _ => 0)))] := hD
  refine W.cs (cells' := 33) (slots' := 2501) rfl rfl ?_
  refine va_putF (D := D) (ci := 3) (v := .ref qB) (ty := .array .int) (C := gR3) (T := gT3) (N := 12) hx hb htb gx_lay3 gY3 gY3_ok gN3 hown hK hP hD hS 0 rfl rfl 6 (by decide) (htb _ (show Cond.fieldLink gR3 43 "GreatestFlow" "barredDown" "[I" ∈ gx_TBL from gx_in1 150 rfl rfl)) (fun _ h9 => h9) rfl hin rfl (by decide +kernel) rfl rfl (Nat.le_of_ble_eq_true rfl) (show decode prog_1_method_1_code 68 = .ok (.putfield 43, 3) by decide +kernel) (fun H locs hP hD hS => ?_)
  have hP : va_P D gx_cl [(h0, .inr (3, [.ref qGraph, .ref qNet, .ref qParts, .ref qS, .ref qF, .ref qK, .ref qB, .int 0, .int 0, .int 0, .int 0, .int 0])), (qGraph, .inr (0, [.ref (uGraph 0), .ref (uGraph 1), .ref (uGraph 2), .ref (uGraph 3), .ref (uGraph 4), .ref (uGraph 5), .ref (uGraph 6), .int 0, .int 0, .int 0])), (uGraph 0, .inl (cA .int, 10, .inl (fun _ => 0))), (uGraph 1, .inl (cA .int, 10, .inl (fun _ => 0))), (uGraph 2, .inl (cA .int, 40, .inl (fun _ => 0))), (uGraph 3, .inl (cA .int, 40, .inl (fun _ => 0))), (uGraph 4, .inl (cA .int, 40, .inl (fun _ => 0))), (uGraph 5, .inl (cA .int, 40, .inl (fun _ => 0))), (uGraph 6, .inl (cA .boolean, 40, .inl (fun _ => 0))), (qNet, .inr (1, [.ref (uNet 0), .ref (uNet 1), .ref (uNet 2), .ref (uNet 3), .ref (uNet 4), .ref (uNet 5), .ref (uNet 6), .ref (uNet 7), .ref (uNet 8), .ref (uNet 9)])), (uNet 0, .inl (cA .int, 61, .inl (fun _ => 0))), (uNet 1, .inl (cA .int, 61, .inl (fun _ => 0))), (uNet 2, .inl (cA .int, 61, .inl (fun _ => 0))), (uNet 3, .inl (cA .int, 61, .inl (fun _ => 0))), (uNet 4, .inl (cA .int, 61, .inl (fun _ => 0))), (uNet 5, .inl (cA .boolean, 61, .inl (fun _ => 0))), (uNet 6, .inl (cA .int, 924, .inl (fun _ => 0))), (uNet 7, .inl (cA .int, 22, .inl (fun _ => 0))), (uNet 8, .inl (cA .int, 22, .inl (fun _ => 0))), (uNet 9, .inl (cA .int, 22, .inl (fun _ => 0))), (qParts, .inr (2, [.ref (uParts 0), .ref (uParts 1), .int 0, .ref (uParts 2), .ref (uParts 3), .ref (uParts 4), .ref (uParts 5), .ref (uParts 6)])), (uParts 0, .inl (cA .int, 50, .inl (fun _ => 0))), (uParts 1, .inl (cA .int, 50, .inl (fun _ => 0))), (uParts 2, .inl (cA .int, 500, .inl (fun _ => 0))), (uParts 3, .inl (cA .int, 40, .inl (fun _ => 0))), (uParts 4, .inl (cA .int, 10, .inl (fun _ => 0))), (uParts 5, .inl (cA .int, 10, .inl (fun _ => 0))), (uParts 6, .inl (cA .int, 10, .inl (fun _ => 0))), (qS, .inl (cA .int, 61, .inl (fun _ => 0))), (qF, .inl (cA (.array .int), 2, .inr (.inr (.inr (.inr (fun i : Nat => ([r 0, r 1] : List Nat)[i]?)))))), (r 0, .inl (cA .int, 61, .inl (fun _ => 0))), (r 1, .inl (cA .int, 61, .inl (fun _ => 0))), (qK, .inl (cA .boolean, 2, .inl (fun _ => 0))), (qB, .inl (cA .int, 40, .inl (fun _ => 0)))] H := hP
  have hD : va_D A [(h0, .inr (3, [.ref qGraph, .ref qNet, .ref qParts, .ref qS, .ref qF, .ref qK, .ref qB, .int 0, .int 0, .int 0, .int 0, .int 0])), (qGraph, .inr (0, [.ref (uGraph 0), .ref (uGraph 1), .ref (uGraph 2), .ref (uGraph 3), .ref (uGraph 4), .ref (uGraph 5), .ref (uGraph 6), .int 0, .int 0, .int 0])), (uGraph 0, .inl (cA .int, 10, .inl (fun _ => 0))), (uGraph 1, .inl (cA .int, 10, .inl (fun _ => 0))), (uGraph 2, .inl (cA .int, 40, .inl (fun _ => 0))), (uGraph 3, .inl (cA .int, 40, .inl (fun _ => 0))), (uGraph 4, .inl (cA .int, 40, .inl (fun _ => 0))), (uGraph 5, .inl (cA .int, 40, .inl (fun _ => 0))), (uGraph 6, .inl (cA .boolean, 40, .inl (fun _ => 0))), (qNet, .inr (1, [.ref (uNet 0), .ref (uNet 1), .ref (uNet 2), .ref (uNet 3), .ref (uNet 4), .ref (uNet 5), .ref (uNet 6), .ref (uNet 7), .ref (uNet 8), .ref (uNet 9)])), (uNet 0, .inl (cA .int, 61, .inl (fun _ => 0))), (uNet 1, .inl (cA .int, 61, .inl (fun _ => 0))), (uNet 2, .inl (cA .int, 61, .inl (fun _ => 0))), (uNet 3, .inl (cA .int, 61, .inl (fun _ => 0))), (uNet 4, .inl (cA .int, 61, .inl (fun _ => 0))), (uNet 5, .inl (cA .boolean, 61, .inl (fun _ => 0))), (uNet 6, .inl (cA .int, 924, .inl (fun _ => 0))), (uNet 7, .inl (cA .int, 22, .inl (fun _ => 0))), (uNet 8, .inl (cA .int, 22, .inl (fun _ => 0))), (uNet 9, .inl (cA .int, 22, .inl (fun _ => 0))), (qParts, .inr (2, [.ref (uParts 0), .ref (uParts 1), .int 0, .ref (uParts 2), .ref (uParts 3), .ref (uParts 4), .ref (uParts 5), .ref (uParts 6)])), (uParts 0, .inl (cA .int, 50, .inl (fun _ => 0))), (uParts 1, .inl (cA .int, 50, .inl (fun _ => 0))), (uParts 2, .inl (cA .int, 500, .inl (fun _ => 0))), (uParts 3, .inl (cA .int, 40, .inl (fun _ => 0))), (uParts 4, .inl (cA .int, 10, .inl (fun _ => 0))), (uParts 5, .inl (cA .int, 10, .inl (fun _ => 0))), (uParts 6, .inl (cA .int, 10, .inl (fun _ => 0))), (qS, .inl (cA .int, 61, .inl (fun _ => 0))), (qF, .inl (cA (.array .int), 2, .inr (.inr (.inr (.inr (fun i : Nat => ([r 0, r 1] : List Nat)[i]?)))))), (r 0, .inl (cA .int, 61, .inl (fun _ => 0))), (r 1, .inl (cA .int, 61, .inl (fun _ => 0))), (qK, .inl (cA .boolean, 2, .inl (fun _ => 0))), (qB, .inl (cA .int, 40, .inl (fun _ => 0)))] := hD
  exact W.vret hx hb hr (fun t ht hW => ⟨⟨(fun i => ([qGraph, qNet, qParts, qS, qF, r 0, r 1, qK, qB, 0, uGraph 0, uGraph 1, uGraph 2, uGraph 3, uGraph 4, uGraph 5, uGraph 6, 0, 0, 0, uNet 0, uNet 1, uNet 2, uNet 3, uNet 4, uNet 5, uNet 6, uNet 7, uNet 8, uNet 9, 0, 0, 0, 0, 0, 0, 0, 0, 0, 0, uParts 0, uParts 1, uParts 2, uParts 3, uParts 4, uParts 5, uParts 6] : List Nat).getD i 0), rfl, trivial, by rw [ht]; exact hP, va_K.moved hW.alike hK, hD⟩, hS.F ht⟩) hS.2.2 (show decode prog_1_method_1_code 71 = .ok (.return_, 1) by decide +kernel)
end
section
/-! THE CLAIM OUT OF ONE WALK OF THE LAW'S BODY. Your part is whole_start (and what it stands on); all else here is the same for every law, but numbers. -/
def R_law : String := "GreatestFlowLaw"
def lw_P (b : Addr) (xs : List Int32) (args : Array Value) (s : State) : Prop := args = #[.ref b] ∧ s.IntsAt b xs ∧ xs.length ≤ 2560 ∧ (Jvm.Cond.and given_1 narrow_1).before args s = true
def lw_Q (_ : Array Value) (s : State) (o : Outcome) (t : State) : Prop := o = .returned (some (.int 1)) ∧ Framed s o t [] 600000 7302250
def lw_Z (below : List Frame) (a : Array Value) (s : State) : State → Prop := fun t => ∃ o, t.status = .running ∧ Ended t below o ∧ lw_Q a s o t
/-- the law's own end, with 1 on the stack, nothing written that was there before, its room as the claim has it -/
theorem lw_ret {p : Program} {l : Launch} {e : Env} {s : State} {m : MethodId} {below : List Frame} {meth : Method} {c : Code} {b : Nat} (hx : p.tables.exec = Jvm.exec) (hb : c.code = code) (hr : meth.sig.returnType = ret) (hlocks : meth.locks = false) {pc : Nat} {H : Heap} {ls : Array Slot} (hdg : decode code pc = .ok (.ireturn, 1)) : W p l e room_1 s m #[Value.ref b] below meth c H [] 600000 7302250 (lw_Z below #[Value.ref b] s) (F0 m pc ls [.int 1]) := by
  intro T hT X
  obtain ⟨fs, hret, hrun, hended, hW, hframe⟩ := X.leave (v := some (.int 1)) (hlocks := hlocks) (fun h => by rw [hr] at h; cases h)
  have hmeth' : T.vm.method? m = some meth := X.method'
  refine ⟨T.setFrames fs, ?_, .returned (some (.int 1)), hrun, hended, rfl, ⟨_, rfl⟩, hW, hframe⟩
  jvm_step X.here [X.here.top, hx, hb, hdg, hmeth', hr, ret, narrow_b1]
  (try refine ⟨rfl, ?_⟩); (try refine ⟨rfl, ?_⟩)
  first | (intro acts; rw [hret _ acts rfl rfl rfl]) | rw [hret _ _ rfl rfl rfl]
  exact Steps.refl _
/-- what holds at the law's entry: the machine, the code, the tables' words (any of lw_tbl by 'hts w (by decide +kernel)'), the script of L ints xs at the cell b, what the Statement gives of the start (any of its parts by flat_of_before) -/
def lw_At (p : Program) (s : State) (m : MethodId) (meth : Method) (c : Code) (b L : Nat) (xs : Nat → Int32) : Prop :=
  p.tables.exec = Jvm.exec ∧ c.code = code ∧ meth.sig.returnType = ret ∧ c.maxLocals = 4 ∧ s.vm.findClass R_law = some m.cls ∧ (∀ w ∈ lw_tbl, w.before #[Value.ref b] s = true) ∧ va_X b L xs s s.heap ∧ b < s.heap.size ∧ meth.locks = false ∧ (Jvm.Cond.and given_1 narrow_1).before #[Value.ref b] s = true
/-! The law's loop, whatever holds between the calls. -/
def lw_T (X : gx_X) (p : Program) (e : Env) (s : State) (m : MethodId) (below : List Frame) (meth : Method) (c : Code) (b : Nat) (pc : Nat) (lo st : List Value) (M : gx_M) : Prop := ∀ (H : Heap) (locs : List Loc) (ls : Array Slot),
  va_P X.2.1 gx_cl (gx_ws X.2.2.1 X.2.2.2 M) H → va_D (fun q : Nat => s.heap.size ≤ q) (gx_ws X.2.2.1 X.2.2.2 M) → va_S (fun q : Nat => s.heap.size ≤ q) s.heap H locs → lv_has ls 4 (gx_lv X.2.2.1 lo) →
  W p X.1 e room_1 s m #[Value.ref b] below meth c H locs 58 4630 (lw_Z below #[Value.ref b] s) (F0 m pc ls (st.map (gx_cv X.2.2.1)))
/-- what stays true all through the law's body -/
def lw_C (X : gx_X) (p : Program) (s : State) (m : MethodId) (meth : Method) (c : Code) (b L : Nat) (xs : Nat → Int32) : Prop := lw_At p s m meth c b L xs ∧ va_K X.2.1 gx_cl (gx_tys X.2.2.2) s ∧ X.2.2.1 58 = b ∧ L ≤ 2560
section LWT
variable {X : gx_X} {p : Program} {e : Env} {s : State} {m : MethodId} {below : List Frame} {meth : Method} {c : Code} {b L : Nat} {xs : Nat → Int32} {pc : Nat} {lo st : List Value} {M : gx_M}
theorem lt_aload (C : lw_C X p s m meth c b L xs) {k : Fin 4} {q : Nat} (hd : decode code pc = .ok (.aload_n k, 1)) (hq : lo.getD k.val .null = .ref q) (h : lw_T X p e s m below meth c b (pc + 1) lo (.ref q :: st) M) : lw_T X p e s m below meth c b pc lo st M :=
  fun H locs ls hP hD hS hl => lv_aload_n C.1.1 C.1.2.1 hd rfl (gx_lv_at hl hq (fun z => by cases z)) (h H locs ls hP hD hS hl)
theorem lt_iload (C : lw_C X p s m meth c b L xs) {k : Fin 4} {x : Int32} (hd : decode code pc = .ok (.iload_n k, 1)) (hq : lo.getD k.val .null = .int x) (h : lw_T X p e s m below meth c b (pc + 1) lo (.int x :: st) M) : lw_T X p e s m below meth c b pc lo st M :=
  fun H locs ls hP hD hS hl => lv_iload_n C.1.1 C.1.2.1 hd rfl (gx_lv_at hl hq (fun z => by cases z)) (h H locs ls hP hD hS hl)
theorem lt_iconst (C : lw_C X p s m meth c b L xs) {n : Int} {v : Int32} (hd : decode code pc = .ok (.iconst n, 1)) (hv : Int32.ofInt n = v) (h : lw_T X p e s m below meth c b (pc + 1) lo (.int v :: st) M) : lw_T X p e s m below meth c b pc lo st M :=
  fun H locs ls hP hD hS hl => lv_iconst C.1.1 C.1.2.1 hd hv (h H locs ls hP hD hS hl)
theorem lt_bipush (C : lw_C X p s m meth c b L xs) {n : Int} {v : Int32} (hd : decode code pc = .ok (.bipush n, 2)) (hv : (Int8.ofInt n).toInt32 = v) (h : lw_T X p e s m below meth c b (pc + 2) lo (.int v :: st) M) : lw_T X p e s m below meth c b pc lo st M :=
  fun H locs ls hP hD hS hl => lv_bipush C.1.1 C.1.2.1 hd hv (h H locs ls hP hD hS hl)
theorem lt_iadd (C : lw_C X p s m meth c b L xs) {x y : Int32} (hd : decode code pc = .ok (.iadd, 1)) (h : lw_T X p e s m below meth c b (pc + 1) lo (.int (x + y) :: st) M) : lw_T X p e s m below meth c b pc lo (.int y :: .int x :: st) M :=
  fun H locs ls hP hD hS hl => lv_iadd C.1.1 C.1.2.1 hd (h H locs ls hP hD hS hl)
theorem lt_isub (C : lw_C X p s m meth c b L xs) {x y : Int32} (hd : decode code pc = .ok (.isub, 1)) (h : lw_T X p e s m below meth c b (pc + 1) lo (.int (x - y) :: st) M) : lw_T X p e s m below meth c b pc lo (.int y :: .int x :: st) M :=
  fun H locs ls hP hD hS hl => lv_isub C.1.1 C.1.2.1 hd (h H locs ls hP hD hS hl)
theorem lt_iand (C : lw_C X p s m meth c b L xs) {x y : Int32} (hd : decode code pc = .ok (.iand, 1)) (h : lw_T X p e s m below meth c b (pc + 1) lo (.int (x &&& y) :: st) M) : lw_T X p e s m below meth c b pc lo (.int y :: .int x :: st) M :=
  fun H locs ls hP hD hS hl => lv_iand C.1.1 C.1.2.1 hd (h H locs ls hP hD hS hl)
theorem lt_sld (C : lw_C X p s m meth c b L xs) {i : Int32} (hd : decode code pc = .ok (.iaload, 1)) (hin : vp_in i L) (h : lw_T X p e s m below meth c b (pc + 1) lo (.int (xs i.toNatClampNeg) :: st) M) : lw_T X p e s m below meth c b pc lo (.int i :: .ref 58 :: st) M := by
  intro H locs ls hP hD hS hl
  obtain ⟨⟨hx, hb, hr, hml, hown, hts, hX, hbl, hlocks, hgv⟩, hK, e58, hL⟩ := C
  show W _ _ _ _ _ _ _ _ _ _ _ _ _ _ _ (F0 m pc ls (.int i :: .ref (X.2.2.1 58) :: st.map (gx_cv X.2.2.1)))
  rw [e58]
  exact va_sld hx hb hX hbl (Nat.not_le.mpr hbl) hS hin hd (h H locs ls hP hD hS hl)
theorem lt_slen (C : lw_C X p s m meth c b L xs) (hd : decode code pc = .ok (.arraylength, 1)) (h : lw_T X p e s m below meth c b (pc + 1) lo (.int (Int32.ofNat L) :: st) M) : lw_T X p e s m below meth c b pc lo (.ref 58 :: st) M := by
  intro H locs ls hP hD hS hl
  obtain ⟨⟨hx, hb, hr, hml, hown, hts, hX, hbl, hlocks, hgv⟩, hK, e58, hL⟩ := C
  show W _ _ _ _ _ _ _ _ _ _ _ _ _ _ _ (F0 m pc ls (.ref (X.2.2.1 58) :: st.map (gx_cv X.2.2.1)))
  rw [e58]
  exact va_slen hx hb hX hbl (Nat.not_le.mpr hbl) hS hd (h H locs ls hP hD hS hl)
theorem lt_eq (C : lw_C X p s m meth c b L xs) {x y : Int32} {off : Int} (tgt : Nat) (hd : decode code pc = .ok (.if_icmp .eq off, 3)) (ht : (pc : Int) + off = (tgt : Int)) (he : x = y) (h : lw_T X p e s m below meth c b tgt lo st M) : lw_T X p e s m below meth c b pc lo (.int y :: .int x :: st) M :=
  fun H locs ls hP hD hS hl => lv_icmp_eq C.1.1 C.1.2.1 hd ht (fun _ => h H locs ls hP hD hS hl) (fun q => absurd he q)
theorem lt_gt (C : lw_C X p s m meth c b L xs) {x y : Int32} {off : Int} (tgt : Nat) (hd : decode code pc = .ok (.if_icmp .gt off, 3)) (ht : (pc : Int) + off = (tgt : Int)) (h1 : y < x → lw_T X p e s m below meth c b tgt lo st M) (h2 : ¬ y < x → lw_T X p e s m below meth c b (pc + 3) lo st M) : lw_T X p e s m below meth c b pc lo (.int y :: .int x :: st) M :=
  fun H locs ls hP hD hS hl => lv_icmp_gt C.1.1 C.1.2.1 hd ht (fun q => h1 q H locs ls hP hD hS hl) (fun q => h2 q H locs ls hP hD hS hl)
theorem lt_goto (C : lw_C X p s m meth c b L xs) {off : Int} (tgt : Nat) (hd : decode code pc = .ok (.goto off, 3)) (ht : (pc : Int) + off = (tgt : Int)) (h : lw_T X p e s m below meth c b tgt lo st M) : lw_T X p e s m below meth c b pc lo st M :=
  fun H locs ls hP hD hS hl => lv_goto C.1.1 C.1.2.1 hd ht (h H locs ls hP hD hS hl)
theorem lt_iinc (C : lw_C X p s m meth c b L xs) {k : Nat} {n : Int} {x v : Int32} (hd : decode code pc = .ok (.iinc k n, 3)) (hq : lo[k]? = some (.int x)) (hv : x + Int32.ofInt n = v) (hk : k < 4) (hlen : lo.length = 4) (hlo : ∀ v ∈ lo, v.category = 1) (h : lw_T X p e s m below meth c b (pc + 3) (lo.set k (.int v)) st M) : lw_T X p e s m below meth c b pc lo st M := by
  intro H locs ls hP hD hS hl
  have hm : (k, Value.int x) ∈ gx_lv X.2.2.1 lo := gx_lv_mem.mpr ⟨.int x, hq, (fun z => by cases z), rfl⟩
  obtain ⟨j, hjm⟩ := List.getElem?_of_mem hm
  exact lv_iinc (k := j) C.1.1 C.1.2.1 hd hl hjm hv hk rfl (fun ls1 hl1 => h H locs ls1 hP hD hS (gx_lv_set hlo (by omega) hl1))
theorem lt_tabOut (C : lw_C X p s m meth c b L xs) {x : Int32} {dflt lo1 hi : Int} {offs : Array Int} {len : Nat} (tgt : Nat) (hd : decode code pc = .ok (.tableswitch dflt lo1 hi offs, len)) (hx : x.toInt < lo1 ∨ hi < x.toInt) (ht : (pc : Int) + dflt = (tgt : Int)) (h : lw_T X p e s m below meth c b tgt lo st M) : lw_T X p e s m below meth c b pc lo (.int x :: st) M :=
  fun H locs ls hP hD hS hl => lv_tableOut C.1.1 C.1.2.1 hd hx ht (h H locs ls hP hD hS hl)
theorem lt_tabIn (C : lw_C X p s m meth c b L xs) {x : Int32} {dflt lo1 hi off : Int} {offs : Array Int} {len : Nat} (tgt : Nat) (hd : decode code pc = .ok (.tableswitch dflt lo1 hi offs, len)) (h1 : ¬ x.toInt < lo1) (h2 : ¬ hi < x.toInt) (ho : offs[(x.toInt - lo1).toNat]? = some off) (ht : (pc : Int) + off = (tgt : Int)) (h : lw_T X p e s m below meth c b tgt lo st M) : lw_T X p e s m below meth c b pc lo (.int x :: st) M :=
  fun H locs ls hP hD hS hl => lv_tableIn C.1.1 C.1.2.1 hd h1 h2 ho ht (h H locs ls hP hD hS hl)
theorem lw_inT : ∀ w ∈ gx_TBL, w ∈ lw_tbl := fun _ h => (List.mem_filter.mp h).1
theorem lw_goodIn {ws : List Cond} (h : ∀ w ∈ ws, w ∈ gx_TBL) : GoodIn lw_tbl ws := fun w hw => ⟨lw_inT w (h w hw), good_of_word (gx_good w (h w hw))⟩
/-- a call of one of the two objects -/
theorem lt_call (C : lw_C X p s m meth c b L xs) {ν idx p0 : Nat} {as : List Value} {P : Option Value → gx_M → Prop} {sl : List (Option Nat)} (hd : decode code pc = .ok (.invokevirtual idx, 3)) (hν : ν < 105) (hcl : gx_at p0 = some (.inr (.inl (gx_on ν, sl)))) (h5 : gx_on ν < 5) (hlenA : as.length + 1 ≤ gx_mL ν)
    (hcat : ∀ v ∈ (Value.ref p0 :: as), v.category = 1) (hst : ∀ v ∈ st, v.category = 1) (hs8 : st.length ≤ 8)
    (q2 : Cond.methodLink R_law idx (gx_y ν) ∈ gx_TBL) (q3 : Cond.initialized (gx_y ν).cls ∈ gx_TBL) (q10 : Cond.instanceMethod (gx_y ν) ∈ gx_TBL) (q11 : Cond.selects (gx_y ν).cls (gx_y ν) (gx_y ν) ∈ gx_TBL)
    (q6 : (gx_y ν).cls ≠ "java/lang/invoke/MethodHandle" ∧ (gx_y ν).cls ≠ "java/lang/invoke/VarHandle" ∧ (parseMethodDescriptor (gx_y ν).desc).map (fun d => d.parameters.length) = some as.length)
    (hR : (gx_rm ν).frames + 1 ≤ room_1.frames ∧ 8 + (gx_mL ν + 11) + (gx_rm ν).locals ≤ room_1.locals) (h : gx_C X ν (.ref p0 :: as) M P)
    (kk : ∀ (v : Option Value) (u : gx_M), P v u → lw_T X p e s m below meth c b (pc + 3) lo (v.toList ++ st) u) : lw_T X p e s m below meth c b pc lo (as.reverse ++ .ref p0 :: st) M := by
  intro H locs ls hP hD hS hl
  obtain ⟨⟨hx, hb, hr, hml, hown, hts, hX, hbl, hlocks, hgv⟩, hK, e58, hL⟩ := C
  obtain ⟨C1, T, N, hc⟩ : ∃ C T N, gx_cl[gx_on ν]? = some (C, T, N) := by
    match gx_on ν, h5 with
    | 0, _ => exact ⟨_, _, _, rfl⟩
    | 1, _ => exact ⟨_, _, _, rfl⟩
    | 2, _ => exact ⟨_, _, _, rfl⟩
    | 3, _ => exact ⟨_, _, _, rfl⟩
    | 4, _ => exact ⟨_, _, _, rfl⟩
  have hcn : (gx_y ν).cls = C1 := by
    rw [gx_own ν hν]
    generalize gx_on ν = z at h5 hc
    match z, h5, hc with
    | 0, _, hc => cases hc; rfl
    | 1, _, hc => cases hc; rfl
    | 2, _, hc => cases hc; rfl
    | 3, _, hc => cases hc; rfl
    | 4, _, hc => cases hc; rfl
  have hrun := va_runV (l := X.1) (As := as.map (gx_cv X.2.2.1)) (rest := st.map (gx_cv X.2.2.1)) (b := X.2.2.1 p0) (locs := locs) (cells := 58) (slots := 4630) (below := below) (meth := meth) (e := e) (g := F0 m pc ls ((as.reverse ++ .ref p0 :: st).map (gx_cv X.2.2.1))) ⟨hx, hb, hml, hown, hts⟩ (gx_met (X := X) (ν := ν) (as := .ref p0 :: as) (M := M) hν hcat hlenA h H.size)
    (cwV (R := room_1) (C := C1) as.length hts (lw_goodIn (fun w hw => by
      rcases List.mem_append.mp hw with z | z
      · simp only [List.mem_cons, List.not_mem_nil, or_false] at z
        rcases z with rfl | rfl | rfl | rfl
        · exact q2
        · exact q10
        · rw [← hcn]; exact q11
        · rw [← hcn]; exact q3
      · rcases List.mem_cons.mp z with rfl | z
        · exact gx_kn hν
        · exact z)) rfl rfl rfl ⟨hcn, q6⟩ hR)
    ⟨gx_blind, va_recv hK hP (ci := gx_on ν) (q0 := p0) hc (gx_ws_at hcl), (fun U hU hW => ⟨rfl, by rw [hU], by rw [hU]; exact hP, va_K.moved hW.alike hK, hD.weaken (fun _ _ _ _ => trivial)⟩)⟩ rfl (by rw [List.length_map]) hl.1 (by show ((as.reverse ++ .ref p0 :: st).map _) = _; rw [List.map_append, List.map_reverse, List.map_cons]; rfl) (lv_room (by rw [gx_sum _ _ hst]; exact hs8)) hd ⟨Nat.le_of_ble_eq_true rfl, Nat.le_of_ble_eq_true rfl⟩
  intro T1 hT1 XX
  obtain ⟨v, st₀, t, T', L1, h0, X', hL1, e1, e2, ⟨⟨v1, u, hv, hp, hcat1, hP1, hK1, hD1⟩, hz, hk⟩, stp⟩ := hrun T1 hT1 XX
  have hv : v = v1.map (gx_cv X.2.2.1) := by injection hv
  subst hv
  rw [h0] at hz hk
  have hA1 : ∀ q, va_A (gx_ws X.2.2.1 X.2.2.2 M) H.size q → s.heap.size ≤ q := gx_freeA (A := fun q : Nat => s.heap.size ≤ q) hD hS (fun _ h => h)
  have e3 : (v1.map (gx_cv X.2.2.1)).toList ++ st.map (gx_cv X.2.2.1) = (v1.toList ++ st).map (gx_cv X.2.2.1) := by cases v1 <;> rfl
  obtain ⟨t2, a1, b1⟩ := kk v1 u hp T'.heap (locs ++ L1) ls (by rw [e1]; exact hP1) (hD1.weaken (fun _ _ _ z => hA1 _ z))
    ⟨Nat.le_trans hS.1 (by rw [e1]; exact hz), fun q h1 h2 => by rw [e1, hk q (Nat.lt_of_lt_of_le h1 hS.1) (fun z => h2 (hA1 q z))]; exact hS.2.1 q h1 h2, fun q hq => by
      rcases List.mem_append.mp hq with h | h
      · exact hS.2.2 q h
      · exact hA1 _ (hL1 q h)⟩ hl T' rfl X'
  refine ⟨t2, stp t2 ?_, b1⟩
  rw [← e3] at a1
  exact a1
end LWT
/-- the two objects answer alike, and what held holds -/
def lw_pair (X : gx_X) (Inv : gx_M → Prop) (μ ν n : Nat) : Prop := ∀ (M : gx_M) (as : List Int32), as.length = n → Inv M → gx_C X μ (.ref 0 :: as.map Value.int) M (fun r M1 => ∃ z : Int32, r = some (.int z) ∧ gx_C X ν (.ref 34 :: as.map Value.int) M1 (fun r2 M2 => r2 = some (.int z) ∧ Inv M2))
def lw_ps : List (Nat × Nat × Nat) := [(31, 82, 0), (32, 83, 2), (33, 84, 2), (34, 85, 4), (35, 86, 3), (36, 87, 1), (37, 88, 0), (38, 89, 0), (39, 91, 1), (40, 92, 2), (41, 93, 2), (42, 95, 1), (43, 96, 1), (44, 97, 1), (45, 98, 1), (46, 99, 0), (47, 100, 2)]
set_option maxHeartbeats 4000000 in
set_option maxRecDepth 100000 in
theorem lw_case0 {X : gx_X} {p : Program} {e : Env} {s : State} {m : MethodId} {below : List Frame} {meth : Method} {c : Code} {b L : Nat} {xs : Nat → Int32} {Inv : gx_M → Prop} {M : gx_M} {i : Nat} (C : lw_C X p s m meth c b L xs) (hp : lw_pair X Inv 31 82 0) (hI : Inv M) (hi : i + 5 ≤ L) (kk : ∀ M1, Inv M1 → lw_T X p e s m below meth c b 567 [.ref 58, .ref 0, .ref 34, .int (nI i)] [] M1) : lw_T X p e s m below meth c b 116 [.ref 58, .ref 0, .ref 34, .int (nI i)] [] M := by
  have hL := C.2.2.2
  have hc := hp M [] rfl hI
  refine lt_aload C (show decode code 116 = .ok (.aload_n 1, 1) by decide +kernel) rfl ?_
  refine lt_call (ν := 31) (p0 := 0) (as := []) (st := []) C (show decode code 117 = .ok (.invokevirtual 13, 3) by decide +kernel) (by decide) rfl (by decide) (Nat.le_of_ble_eq_true rfl) (by intro v hv; simp only [List.mem_cons, List.not_mem_nil, or_false] at hv; rcases hv with rfl <;> rfl) (by intro v hv; cases hv) (Nat.le_of_ble_eq_true rfl) (show Cond.methodLink R_law 13 (gx_y 31) ∈ gx_TBL from gx_in1 181 rfl rfl) (show Cond.initialized (gx_y 31).cls ∈ gx_TBL from gx_in1 1 rfl rfl) (show Cond.instanceMethod (gx_y 31) ∈ gx_TBL from gx_in1 182 rfl rfl) (show Cond.selects (gx_y 31).cls (gx_y 31) (gx_y 31) ∈ gx_TBL from gx_in1 183 rfl rfl) (show (gx_y 31).cls ≠ "java/lang/invoke/MethodHandle" ∧ (gx_y 31).cls ≠ "java/lang/invoke/VarHandle" ∧ (parseMethodDescriptor (gx_y 31).desc).map (fun d => d.parameters.length) = some 0 by decide +kernel) (by decide +kernel) hc (fun v u hv => ?_)
  obtain ⟨z, rfl, hc2⟩ := hv
  refine lt_aload C (show decode code 120 = .ok (.aload_n 2, 1) by decide +kernel) rfl ?_
  refine lt_call (ν := 82) (p0 := 34) (as := []) (st := [.int z]) C (show decode code 121 = .ok (.invokevirtual 17, 3) by decide +kernel) (by decide) rfl (by decide) (Nat.le_of_ble_eq_true rfl) (by intro v hv; simp only [List.mem_cons, List.not_mem_nil, or_false] at hv; rcases hv with rfl <;> rfl) (by intro v hv; rcases List.mem_singleton.mp hv with rfl; rfl) (Nat.le_of_ble_eq_true rfl) (show Cond.methodLink R_law 17 (gx_y 82) ∈ gx_TBL from gx_in3 59 rfl rfl) (show Cond.initialized (gx_y 82).cls ∈ gx_TBL from gx_in1 5 rfl rfl) (show Cond.instanceMethod (gx_y 82) ∈ gx_TBL from gx_in3 60 rfl rfl) (show Cond.selects (gx_y 82).cls (gx_y 82) (gx_y 82) ∈ gx_TBL from gx_in3 61 rfl rfl) (show (gx_y 82).cls ≠ "java/lang/invoke/MethodHandle" ∧ (gx_y 82).cls ≠ "java/lang/invoke/VarHandle" ∧ (parseMethodDescriptor (gx_y 82).desc).map (fun d => d.parameters.length) = some 0 by decide +kernel) (by decide +kernel) hc2 (fun v u hv => ?_)
  obtain ⟨rfl, hI2⟩ := hv
  exact lt_eq C 567 (show decode code 124 = .ok (.if_icmp .eq 443, 3) by decide +kernel) (by decide) rfl (kk u hI2)
set_option maxHeartbeats 4000000 in
set_option maxRecDepth 100000 in
theorem lw_case1 {X : gx_X} {p : Program} {e : Env} {s : State} {m : MethodId} {below : List Frame} {meth : Method} {c : Code} {b L : Nat} {xs : Nat → Int32} {Inv : gx_M → Prop} {M : gx_M} {i : Nat} (C : lw_C X p s m meth c b L xs) (hp : lw_pair X Inv 32 83 2) (hI : Inv M) (hi : i + 5 ≤ L) (kk : ∀ M1, Inv M1 → lw_T X p e s m below meth c b 567 [.ref 58, .ref 0, .ref 34, .int (nI i)] [] M1) : lw_T X p e s m below meth c b 129 [.ref 58, .ref 0, .ref 34, .int (nI i)] [] M := by
  have hL := C.2.2.2
  have hin1 : vp_in (nI i + 1) L := by rw [show nI i + 1 = nI (i + 1) from nI_add i 1]; exact vp_in_nI (by omega) (by omega)
  have hin2 : vp_in (nI i + 2) L := by rw [show nI i + 2 = nI (i + 2) from nI_add i 2]; exact vp_in_nI (by omega) (by omega)
  have hc := hp M [xs (nI i + 1).toNatClampNeg, xs (nI i + 2).toNatClampNeg] rfl hI
  refine lt_aload C (show decode code 129 = .ok (.aload_n 1, 1) by decide +kernel) rfl ?_
  refine lt_aload C (show decode code 130 = .ok (.aload_n 0, 1) by decide +kernel) rfl ?_
  refine lt_iload C (show decode code 131 = .ok (.iload_n 3, 1) by decide +kernel) rfl ?_
  refine lt_iconst (v := 1) C (show decode code 132 = .ok (.iconst 1, 1) by decide +kernel) (by decide) ?_
  refine lt_iadd C (show decode code 133 = .ok (.iadd, 1) by decide +kernel) ?_
  refine lt_sld C (show decode code 134 = .ok (.iaload, 1) by decide +kernel) hin1 ?_
  refine lt_aload C (show decode code 135 = .ok (.aload_n 0, 1) by decide +kernel) rfl ?_
  refine lt_iload C (show decode code 136 = .ok (.iload_n 3, 1) by decide +kernel) rfl ?_
  refine lt_iconst (v := 2) C (show decode code 137 = .ok (.iconst 2, 1) by decide +kernel) (by decide) ?_
  refine lt_iadd C (show decode code 138 = .ok (.iadd, 1) by decide +kernel) ?_
  refine lt_sld C (show decode code 139 = .ok (.iaload, 1) by decide +kernel) hin2 ?_
  refine lt_call (ν := 32) (p0 := 0) (as := [.int (xs (nI i + 1).toNatClampNeg), .int (xs (nI i + 2).toNatClampNeg)]) (st := []) C (show decode code 140 = .ok (.invokevirtual 18, 3) by decide +kernel) (by decide) rfl (by decide) (Nat.le_of_ble_eq_true rfl) (by intro v hv; simp only [List.mem_cons, List.not_mem_nil, or_false] at hv; rcases hv with rfl | rfl | rfl <;> rfl) (by intro v hv; cases hv) (Nat.le_of_ble_eq_true rfl) (show Cond.methodLink R_law 18 (gx_y 32) ∈ gx_TBL from gx_in1 193 rfl rfl) (show Cond.initialized (gx_y 32).cls ∈ gx_TBL from gx_in1 1 rfl rfl) (show Cond.instanceMethod (gx_y 32) ∈ gx_TBL from gx_in1 194 rfl rfl) (show Cond.selects (gx_y 32).cls (gx_y 32) (gx_y 32) ∈ gx_TBL from gx_in1 195 rfl rfl) (show (gx_y 32).cls ≠ "java/lang/invoke/MethodHandle" ∧ (gx_y 32).cls ≠ "java/lang/invoke/VarHandle" ∧ (parseMethodDescriptor (gx_y 32).desc).map (fun d => d.parameters.length) = some 2 by decide +kernel) (by decide +kernel) hc (fun v u hv => ?_)
  obtain ⟨z, rfl, hc2⟩ := hv
  refine lt_aload C (show decode code 143 = .ok (.aload_n 2, 1) by decide +kernel) rfl ?_
  refine lt_aload C (show decode code 144 = .ok (.aload_n 0, 1) by decide +kernel) rfl ?_
  refine lt_iload C (show decode code 145 = .ok (.iload_n 3, 1) by decide +kernel) rfl ?_
  refine lt_iconst (v := 1) C (show decode code 146 = .ok (.iconst 1, 1) by decide +kernel) (by decide) ?_
  refine lt_iadd C (show decode code 147 = .ok (.iadd, 1) by decide +kernel) ?_
  refine lt_sld C (show decode code 148 = .ok (.iaload, 1) by decide +kernel) hin1 ?_
  refine lt_aload C (show decode code 149 = .ok (.aload_n 0, 1) by decide +kernel) rfl ?_
  refine lt_iload C (show decode code 150 = .ok (.iload_n 3, 1) by decide +kernel) rfl ?_
  refine lt_iconst (v := 2) C (show decode code 151 = .ok (.iconst 2, 1) by decide +kernel) (by decide) ?_
  refine lt_iadd C (show decode code 152 = .ok (.iadd, 1) by decide +kernel) ?_
  refine lt_sld C (show decode code 153 = .ok (.iaload, 1) by decide +kernel) hin2 ?_
  refine lt_call (ν := 83) (p0 := 34) (as := [.int (xs (nI i + 1).toNatClampNeg), .int (xs (nI i + 2).toNatClampNeg)]) (st := [.int z]) C (show decode code 154 = .ok (.invokevirtual 22, 3) by decide +kernel) (by decide) rfl (by decide) (Nat.le_of_ble_eq_true rfl) (by intro v hv; simp only [List.mem_cons, List.not_mem_nil, or_false] at hv; rcases hv with rfl | rfl | rfl <;> rfl) (by intro v hv; rcases List.mem_singleton.mp hv with rfl; rfl) (Nat.le_of_ble_eq_true rfl) (show Cond.methodLink R_law 22 (gx_y 83) ∈ gx_TBL from gx_in3 63 rfl rfl) (show Cond.initialized (gx_y 83).cls ∈ gx_TBL from gx_in1 5 rfl rfl) (show Cond.instanceMethod (gx_y 83) ∈ gx_TBL from gx_in3 64 rfl rfl) (show Cond.selects (gx_y 83).cls (gx_y 83) (gx_y 83) ∈ gx_TBL from gx_in3 65 rfl rfl) (show (gx_y 83).cls ≠ "java/lang/invoke/MethodHandle" ∧ (gx_y 83).cls ≠ "java/lang/invoke/VarHandle" ∧ (parseMethodDescriptor (gx_y 83).desc).map (fun d => d.parameters.length) = some 2 by decide +kernel) (by decide +kernel) hc2 (fun v u hv => ?_)
  obtain ⟨rfl, hI2⟩ := hv
  exact lt_eq C 567 (show decode code 157 = .ok (.if_icmp .eq 410, 3) by decide +kernel) (by decide) rfl (kk u hI2)
set_option maxHeartbeats 4000000 in
set_option maxRecDepth 100000 in
theorem lw_case2 {X : gx_X} {p : Program} {e : Env} {s : State} {m : MethodId} {below : List Frame} {meth : Method} {c : Code} {b L : Nat} {xs : Nat → Int32} {Inv : gx_M → Prop} {M : gx_M} {i : Nat} (C : lw_C X p s m meth c b L xs) (hp : lw_pair X Inv 33 84 2) (hI : Inv M) (hi : i + 5 ≤ L) (kk : ∀ M1, Inv M1 → lw_T X p e s m below meth c b 567 [.ref 58, .ref 0, .ref 34, .int (nI i)] [] M1) : lw_T X p e s m below meth c b 162 [.ref 58, .ref 0, .ref 34, .int (nI i)] [] M := by
  have hL := C.2.2.2
  have hin1 : vp_in (nI i + 1) L := by rw [show nI i + 1 = nI (i + 1) from nI_add i 1]; exact vp_in_nI (by omega) (by omega)
  have hin2 : vp_in (nI i + 2) L := by rw [show nI i + 2 = nI (i + 2) from nI_add i 2]; exact vp_in_nI (by omega) (by omega)
  have hc := hp M [xs (nI i + 1).toNatClampNeg, xs (nI i + 2).toNatClampNeg] rfl hI
  refine lt_aload C (show decode code 162 = .ok (.aload_n 1, 1) by decide +kernel) rfl ?_
  refine lt_aload C (show decode code 163 = .ok (.aload_n 0, 1) by decide +kernel) rfl ?_
  refine lt_iload C (show decode code 164 = .ok (.iload_n 3, 1) by decide +kernel) rfl ?_
  refine lt_iconst (v := 1) C (show decode code 165 = .ok (.iconst 1, 1) by decide +kernel) (by decide) ?_
  refine lt_iadd C (show decode code 166 = .ok (.iadd, 1) by decide +kernel) ?_
  refine lt_sld C (show decode code 167 = .ok (.iaload, 1) by decide +kernel) hin1 ?_
  refine lt_aload C (show decode code 168 = .ok (.aload_n 0, 1) by decide +kernel) rfl ?_
  refine lt_iload C (show decode code 169 = .ok (.iload_n 3, 1) by decide +kernel) rfl ?_
  refine lt_iconst (v := 2) C (show decode code 170 = .ok (.iconst 2, 1) by decide +kernel) (by decide) ?_
  refine lt_iadd C (show decode code 171 = .ok (.iadd, 1) by decide +kernel) ?_
  refine lt_sld C (show decode code 172 = .ok (.iaload, 1) by decide +kernel) hin2 ?_
  refine lt_call (ν := 33) (p0 := 0) (as := [.int (xs (nI i + 1).toNatClampNeg), .int (xs (nI i + 2).toNatClampNeg)]) (st := []) C (show decode code 173 = .ok (.invokevirtual 23, 3) by decide +kernel) (by decide) rfl (by decide) (Nat.le_of_ble_eq_true rfl) (by intro v hv; simp only [List.mem_cons, List.not_mem_nil, or_false] at hv; rcases hv with rfl | rfl | rfl <;> rfl) (by intro v hv; cases hv) (Nat.le_of_ble_eq_true rfl) (show Cond.methodLink R_law 23 (gx_y 33) ∈ gx_TBL from gx_in1 201 rfl rfl) (show Cond.initialized (gx_y 33).cls ∈ gx_TBL from gx_in1 1 rfl rfl) (show Cond.instanceMethod (gx_y 33) ∈ gx_TBL from gx_in1 202 rfl rfl) (show Cond.selects (gx_y 33).cls (gx_y 33) (gx_y 33) ∈ gx_TBL from gx_in1 203 rfl rfl) (show (gx_y 33).cls ≠ "java/lang/invoke/MethodHandle" ∧ (gx_y 33).cls ≠ "java/lang/invoke/VarHandle" ∧ (parseMethodDescriptor (gx_y 33).desc).map (fun d => d.parameters.length) = some 2 by decide +kernel) (by decide +kernel) hc (fun v u hv => ?_)
  obtain ⟨z, rfl, hc2⟩ := hv
  refine lt_aload C (show decode code 176 = .ok (.aload_n 2, 1) by decide +kernel) rfl ?_
  refine lt_aload C (show decode code 177 = .ok (.aload_n 0, 1) by decide +kernel) rfl ?_
  refine lt_iload C (show decode code 178 = .ok (.iload_n 3, 1) by decide +kernel) rfl ?_
  refine lt_iconst (v := 1) C (show decode code 179 = .ok (.iconst 1, 1) by decide +kernel) (by decide) ?_
  refine lt_iadd C (show decode code 180 = .ok (.iadd, 1) by decide +kernel) ?_
  refine lt_sld C (show decode code 181 = .ok (.iaload, 1) by decide +kernel) hin1 ?_
  refine lt_aload C (show decode code 182 = .ok (.aload_n 0, 1) by decide +kernel) rfl ?_
  refine lt_iload C (show decode code 183 = .ok (.iload_n 3, 1) by decide +kernel) rfl ?_
  refine lt_iconst (v := 2) C (show decode code 184 = .ok (.iconst 2, 1) by decide +kernel) (by decide) ?_
  refine lt_iadd C (show decode code 185 = .ok (.iadd, 1) by decide +kernel) ?_
  refine lt_sld C (show decode code 186 = .ok (.iaload, 1) by decide +kernel) hin2 ?_
  refine lt_call (ν := 84) (p0 := 34) (as := [.int (xs (nI i + 1).toNatClampNeg), .int (xs (nI i + 2).toNatClampNeg)]) (st := [.int z]) C (show decode code 187 = .ok (.invokevirtual 26, 3) by decide +kernel) (by decide) rfl (by decide) (Nat.le_of_ble_eq_true rfl) (by intro v hv; simp only [List.mem_cons, List.not_mem_nil, or_false] at hv; rcases hv with rfl | rfl | rfl <;> rfl) (by intro v hv; rcases List.mem_singleton.mp hv with rfl; rfl) (Nat.le_of_ble_eq_true rfl) (show Cond.methodLink R_law 26 (gx_y 84) ∈ gx_TBL from gx_in3 71 rfl rfl) (show Cond.initialized (gx_y 84).cls ∈ gx_TBL from gx_in1 5 rfl rfl) (show Cond.instanceMethod (gx_y 84) ∈ gx_TBL from gx_in3 72 rfl rfl) (show Cond.selects (gx_y 84).cls (gx_y 84) (gx_y 84) ∈ gx_TBL from gx_in3 73 rfl rfl) (show (gx_y 84).cls ≠ "java/lang/invoke/MethodHandle" ∧ (gx_y 84).cls ≠ "java/lang/invoke/VarHandle" ∧ (parseMethodDescriptor (gx_y 84).desc).map (fun d => d.parameters.length) = some 2 by decide +kernel) (by decide +kernel) hc2 (fun v u hv => ?_)
  obtain ⟨rfl, hI2⟩ := hv
  exact lt_eq C 567 (show decode code 190 = .ok (.if_icmp .eq 377, 3) by decide +kernel) (by decide) rfl (kk u hI2)
set_option maxHeartbeats 4000000 in
set_option maxRecDepth 100000 in
theorem lw_case3 {X : gx_X} {p : Program} {e : Env} {s : State} {m : MethodId} {below : List Frame} {meth : Method} {c : Code} {b L : Nat} {xs : Nat → Int32} {Inv : gx_M → Prop} {M : gx_M} {i : Nat} (C : lw_C X p s m meth c b L xs) (hp : lw_pair X Inv 34 85 4) (hI : Inv M) (hi : i + 5 ≤ L) (kk : ∀ M1, Inv M1 → lw_T X p e s m below meth c b 567 [.ref 58, .ref 0, .ref 34, .int (nI i)] [] M1) : lw_T X p e s m below meth c b 195 [.ref 58, .ref 0, .ref 34, .int (nI i)] [] M := by
  have hL := C.2.2.2
  have hin1 : vp_in (nI i + 1) L := by rw [show nI i + 1 = nI (i + 1) from nI_add i 1]; exact vp_in_nI (by omega) (by omega)
  have hin2 : vp_in (nI i + 2) L := by rw [show nI i + 2 = nI (i + 2) from nI_add i 2]; exact vp_in_nI (by omega) (by omega)
  have hin3 : vp_in (nI i + 3) L := by rw [show nI i + 3 = nI (i + 3) from nI_add i 3]; exact vp_in_nI (by omega) (by omega)
  have hin4 : vp_in (nI i + 4) L := by rw [show nI i + 4 = nI (i + 4) from nI_add i 4]; exact vp_in_nI (by omega) (by omega)
  have hc := hp M [xs (nI i + 1).toNatClampNeg, xs (nI i + 2).toNatClampNeg, xs (nI i + 3).toNatClampNeg, xs (nI i + 4).toNatClampNeg] rfl hI
  refine lt_aload C (show decode code 195 = .ok (.aload_n 1, 1) by decide +kernel) rfl ?_
  refine lt_aload C (show decode code 196 = .ok (.aload_n 0, 1) by decide +kernel) rfl ?_
  refine lt_iload C (show decode code 197 = .ok (.iload_n 3, 1) by decide +kernel) rfl ?_
  refine lt_iconst (v := 1) C (show decode code 198 = .ok (.iconst 1, 1) by decide +kernel) (by decide) ?_
  refine lt_iadd C (show decode code 199 = .ok (.iadd, 1) by decide +kernel) ?_
  refine lt_sld C (show decode code 200 = .ok (.iaload, 1) by decide +kernel) hin1 ?_
  refine lt_aload C (show decode code 201 = .ok (.aload_n 0, 1) by decide +kernel) rfl ?_
  refine lt_iload C (show decode code 202 = .ok (.iload_n 3, 1) by decide +kernel) rfl ?_
  refine lt_iconst (v := 2) C (show decode code 203 = .ok (.iconst 2, 1) by decide +kernel) (by decide) ?_
  refine lt_iadd C (show decode code 204 = .ok (.iadd, 1) by decide +kernel) ?_
  refine lt_sld C (show decode code 205 = .ok (.iaload, 1) by decide +kernel) hin2 ?_
  refine lt_aload C (show decode code 206 = .ok (.aload_n 0, 1) by decide +kernel) rfl ?_
  refine lt_iload C (show decode code 207 = .ok (.iload_n 3, 1) by decide +kernel) rfl ?_
  refine lt_iconst (v := 3) C (show decode code 208 = .ok (.iconst 3, 1) by decide +kernel) (by decide) ?_
  refine lt_iadd C (show decode code 209 = .ok (.iadd, 1) by decide +kernel) ?_
  refine lt_sld C (show decode code 210 = .ok (.iaload, 1) by decide +kernel) hin3 ?_
  refine lt_aload C (show decode code 211 = .ok (.aload_n 0, 1) by decide +kernel) rfl ?_
  refine lt_iload C (show decode code 212 = .ok (.iload_n 3, 1) by decide +kernel) rfl ?_
  refine lt_iconst (v := 4) C (show decode code 213 = .ok (.iconst 4, 1) by decide +kernel) (by decide) ?_
  refine lt_iadd C (show decode code 214 = .ok (.iadd, 1) by decide +kernel) ?_
  refine lt_sld C (show decode code 215 = .ok (.iaload, 1) by decide +kernel) hin4 ?_
  refine lt_call (ν := 34) (p0 := 0) (as := [.int (xs (nI i + 1).toNatClampNeg), .int (xs (nI i + 2).toNatClampNeg), .int (xs (nI i + 3).toNatClampNeg), .int (xs (nI i + 4).toNatClampNeg)]) (st := []) C (show decode code 216 = .ok (.invokevirtual 27, 3) by decide +kernel) (by decide) rfl (by decide) (Nat.le_of_ble_eq_true rfl) (by intro v hv; simp only [List.mem_cons, List.not_mem_nil, or_false] at hv; rcases hv with rfl | rfl | rfl | rfl | rfl <;> rfl) (by intro v hv; cases hv) (Nat.le_of_ble_eq_true rfl) (show Cond.methodLink R_law 27 (gx_y 34) ∈ gx_TBL from gx_in1 206 rfl rfl) (show Cond.initialized (gx_y 34).cls ∈ gx_TBL from gx_in1 1 rfl rfl) (show Cond.instanceMethod (gx_y 34) ∈ gx_TBL from gx_in1 207 rfl rfl) (show Cond.selects (gx_y 34).cls (gx_y 34) (gx_y 34) ∈ gx_TBL from gx_in1 208 rfl rfl) (show (gx_y 34).cls ≠ "java/lang/invoke/MethodHandle" ∧ (gx_y 34).cls ≠ "java/lang/invoke/VarHandle" ∧ (parseMethodDescriptor (gx_y 34).desc).map (fun d => d.parameters.length) = some 4 by decide +kernel) (by decide +kernel) hc (fun v u hv => ?_)
  obtain ⟨z, rfl, hc2⟩ := hv
  refine lt_aload C (show decode code 219 = .ok (.aload_n 2, 1) by decide +kernel) rfl ?_
  refine lt_aload C (show decode code 220 = .ok (.aload_n 0, 1) by decide +kernel) rfl ?_
  refine lt_iload C (show decode code 221 = .ok (.iload_n 3, 1) by decide +kernel) rfl ?_
  refine lt_iconst (v := 1) C (show decode code 222 = .ok (.iconst 1, 1) by decide +kernel) (by decide) ?_
  refine lt_iadd C (show decode code 223 = .ok (.iadd, 1) by decide +kernel) ?_
  refine lt_sld C (show decode code 224 = .ok (.iaload, 1) by decide +kernel) hin1 ?_
  refine lt_aload C (show decode code 225 = .ok (.aload_n 0, 1) by decide +kernel) rfl ?_
  refine lt_iload C (show decode code 226 = .ok (.iload_n 3, 1) by decide +kernel) rfl ?_
  refine lt_iconst (v := 2) C (show decode code 227 = .ok (.iconst 2, 1) by decide +kernel) (by decide) ?_
  refine lt_iadd C (show decode code 228 = .ok (.iadd, 1) by decide +kernel) ?_
  refine lt_sld C (show decode code 229 = .ok (.iaload, 1) by decide +kernel) hin2 ?_
  refine lt_aload C (show decode code 230 = .ok (.aload_n 0, 1) by decide +kernel) rfl ?_
  refine lt_iload C (show decode code 231 = .ok (.iload_n 3, 1) by decide +kernel) rfl ?_
  refine lt_iconst (v := 3) C (show decode code 232 = .ok (.iconst 3, 1) by decide +kernel) (by decide) ?_
  refine lt_iadd C (show decode code 233 = .ok (.iadd, 1) by decide +kernel) ?_
  refine lt_sld C (show decode code 234 = .ok (.iaload, 1) by decide +kernel) hin3 ?_
  refine lt_aload C (show decode code 235 = .ok (.aload_n 0, 1) by decide +kernel) rfl ?_
  refine lt_iload C (show decode code 236 = .ok (.iload_n 3, 1) by decide +kernel) rfl ?_
  refine lt_iconst (v := 4) C (show decode code 237 = .ok (.iconst 4, 1) by decide +kernel) (by decide) ?_
  refine lt_iadd C (show decode code 238 = .ok (.iadd, 1) by decide +kernel) ?_
  refine lt_sld C (show decode code 239 = .ok (.iaload, 1) by decide +kernel) hin4 ?_
  refine lt_call (ν := 85) (p0 := 34) (as := [.int (xs (nI i + 1).toNatClampNeg), .int (xs (nI i + 2).toNatClampNeg), .int (xs (nI i + 3).toNatClampNeg), .int (xs (nI i + 4).toNatClampNeg)]) (st := [.int z]) C (show decode code 240 = .ok (.invokevirtual 31, 3) by decide +kernel) (by decide) rfl (by decide) (Nat.le_of_ble_eq_true rfl) (by intro v hv; simp only [List.mem_cons, List.not_mem_nil, or_false] at hv; rcases hv with rfl | rfl | rfl | rfl | rfl <;> rfl) (by intro v hv; rcases List.mem_singleton.mp hv with rfl; rfl) (Nat.le_of_ble_eq_true rfl) (show Cond.methodLink R_law 31 (gx_y 85) ∈ gx_TBL from gx_in3 76 rfl rfl) (show Cond.initialized (gx_y 85).cls ∈ gx_TBL from gx_in1 5 rfl rfl) (show Cond.instanceMethod (gx_y 85) ∈ gx_TBL from gx_in3 77 rfl rfl) (show Cond.selects (gx_y 85).cls (gx_y 85) (gx_y 85) ∈ gx_TBL from gx_in3 78 rfl rfl) (show (gx_y 85).cls ≠ "java/lang/invoke/MethodHandle" ∧ (gx_y 85).cls ≠ "java/lang/invoke/VarHandle" ∧ (parseMethodDescriptor (gx_y 85).desc).map (fun d => d.parameters.length) = some 4 by decide +kernel) (by decide +kernel) hc2 (fun v u hv => ?_)
  obtain ⟨rfl, hI2⟩ := hv
  exact lt_eq C 567 (show decode code 243 = .ok (.if_icmp .eq 324, 3) by decide +kernel) (by decide) rfl (kk u hI2)
set_option maxHeartbeats 4000000 in
set_option maxRecDepth 100000 in
theorem lw_case4 {X : gx_X} {p : Program} {e : Env} {s : State} {m : MethodId} {below : List Frame} {meth : Method} {c : Code} {b L : Nat} {xs : Nat → Int32} {Inv : gx_M → Prop} {M : gx_M} {i : Nat} (C : lw_C X p s m meth c b L xs) (hp : lw_pair X Inv 35 86 3) (hI : Inv M) (hi : i + 5 ≤ L) (kk : ∀ M1, Inv M1 → lw_T X p e s m below meth c b 567 [.ref 58, .ref 0, .ref 34, .int (nI i)] [] M1) : lw_T X p e s m below meth c b 248 [.ref 58, .ref 0, .ref 34, .int (nI i)] [] M := by
  have hL := C.2.2.2
  have hin1 : vp_in (nI i + 1) L := by rw [show nI i + 1 = nI (i + 1) from nI_add i 1]; exact vp_in_nI (by omega) (by omega)
  have hin2 : vp_in (nI i + 2) L := by rw [show nI i + 2 = nI (i + 2) from nI_add i 2]; exact vp_in_nI (by omega) (by omega)
  have hin3 : vp_in (nI i + 3) L := by rw [show nI i + 3 = nI (i + 3) from nI_add i 3]; exact vp_in_nI (by omega) (by omega)
  have hc := hp M [xs (nI i + 1).toNatClampNeg, xs (nI i + 2).toNatClampNeg, xs (nI i + 3).toNatClampNeg] rfl hI
  refine lt_aload C (show decode code 248 = .ok (.aload_n 1, 1) by decide +kernel) rfl ?_
  refine lt_aload C (show decode code 249 = .ok (.aload_n 0, 1) by decide +kernel) rfl ?_
  refine lt_iload C (show decode code 250 = .ok (.iload_n 3, 1) by decide +kernel) rfl ?_
  refine lt_iconst (v := 1) C (show decode code 251 = .ok (.iconst 1, 1) by decide +kernel) (by decide) ?_
  refine lt_iadd C (show decode code 252 = .ok (.iadd, 1) by decide +kernel) ?_
  refine lt_sld C (show decode code 253 = .ok (.iaload, 1) by decide +kernel) hin1 ?_
  refine lt_aload C (show decode code 254 = .ok (.aload_n 0, 1) by decide +kernel) rfl ?_
  refine lt_iload C (show decode code 255 = .ok (.iload_n 3, 1) by decide +kernel) rfl ?_
  refine lt_iconst (v := 2) C (show decode code 256 = .ok (.iconst 2, 1) by decide +kernel) (by decide) ?_
  refine lt_iadd C (show decode code 257 = .ok (.iadd, 1) by decide +kernel) ?_
  refine lt_sld C (show decode code 258 = .ok (.iaload, 1) by decide +kernel) hin2 ?_
  refine lt_aload C (show decode code 259 = .ok (.aload_n 0, 1) by decide +kernel) rfl ?_
  refine lt_iload C (show decode code 260 = .ok (.iload_n 3, 1) by decide +kernel) rfl ?_
  refine lt_iconst (v := 3) C (show decode code 261 = .ok (.iconst 3, 1) by decide +kernel) (by decide) ?_
  refine lt_iadd C (show decode code 262 = .ok (.iadd, 1) by decide +kernel) ?_
  refine lt_sld C (show decode code 263 = .ok (.iaload, 1) by decide +kernel) hin3 ?_
  refine lt_call (ν := 35) (p0 := 0) (as := [.int (xs (nI i + 1).toNatClampNeg), .int (xs (nI i + 2).toNatClampNeg), .int (xs (nI i + 3).toNatClampNeg)]) (st := []) C (show decode code 264 = .ok (.invokevirtual 32, 3) by decide +kernel) (by decide) rfl (by decide) (Nat.le_of_ble_eq_true rfl) (by intro v hv; simp only [List.mem_cons, List.not_mem_nil, or_false] at hv; rcases hv with rfl | rfl | rfl | rfl <;> rfl) (by intro v hv; cases hv) (Nat.le_of_ble_eq_true rfl) (show Cond.methodLink R_law 32 (gx_y 35) ∈ gx_TBL from gx_in1 217 rfl rfl) (show Cond.initialized (gx_y 35).cls ∈ gx_TBL from gx_in1 1 rfl rfl) (show Cond.instanceMethod (gx_y 35) ∈ gx_TBL from gx_in1 218 rfl rfl) (show Cond.selects (gx_y 35).cls (gx_y 35) (gx_y 35) ∈ gx_TBL from gx_in1 219 rfl rfl) (show (gx_y 35).cls ≠ "java/lang/invoke/MethodHandle" ∧ (gx_y 35).cls ≠ "java/lang/invoke/VarHandle" ∧ (parseMethodDescriptor (gx_y 35).desc).map (fun d => d.parameters.length) = some 3 by decide +kernel) (by decide +kernel) hc (fun v u hv => ?_)
  obtain ⟨z, rfl, hc2⟩ := hv
  refine lt_aload C (show decode code 267 = .ok (.aload_n 2, 1) by decide +kernel) rfl ?_
  refine lt_aload C (show decode code 268 = .ok (.aload_n 0, 1) by decide +kernel) rfl ?_
  refine lt_iload C (show decode code 269 = .ok (.iload_n 3, 1) by decide +kernel) rfl ?_
  refine lt_iconst (v := 1) C (show decode code 270 = .ok (.iconst 1, 1) by decide +kernel) (by decide) ?_
  refine lt_iadd C (show decode code 271 = .ok (.iadd, 1) by decide +kernel) ?_
  refine lt_sld C (show decode code 272 = .ok (.iaload, 1) by decide +kernel) hin1 ?_
  refine lt_aload C (show decode code 273 = .ok (.aload_n 0, 1) by decide +kernel) rfl ?_
  refine lt_iload C (show decode code 274 = .ok (.iload_n 3, 1) by decide +kernel) rfl ?_
  refine lt_iconst (v := 2) C (show decode code 275 = .ok (.iconst 2, 1) by decide +kernel) (by decide) ?_
  refine lt_iadd C (show decode code 276 = .ok (.iadd, 1) by decide +kernel) ?_
  refine lt_sld C (show decode code 277 = .ok (.iaload, 1) by decide +kernel) hin2 ?_
  refine lt_aload C (show decode code 278 = .ok (.aload_n 0, 1) by decide +kernel) rfl ?_
  refine lt_iload C (show decode code 279 = .ok (.iload_n 3, 1) by decide +kernel) rfl ?_
  refine lt_iconst (v := 3) C (show decode code 280 = .ok (.iconst 3, 1) by decide +kernel) (by decide) ?_
  refine lt_iadd C (show decode code 281 = .ok (.iadd, 1) by decide +kernel) ?_
  refine lt_sld C (show decode code 282 = .ok (.iaload, 1) by decide +kernel) hin3 ?_
  refine lt_call (ν := 86) (p0 := 34) (as := [.int (xs (nI i + 1).toNatClampNeg), .int (xs (nI i + 2).toNatClampNeg), .int (xs (nI i + 3).toNatClampNeg)]) (st := [.int z]) C (show decode code 283 = .ok (.invokevirtual 36, 3) by decide +kernel) (by decide) rfl (by decide) (Nat.le_of_ble_eq_true rfl) (by intro v hv; simp only [List.mem_cons, List.not_mem_nil, or_false] at hv; rcases hv with rfl | rfl | rfl | rfl <;> rfl) (by intro v hv; rcases List.mem_singleton.mp hv with rfl; rfl) (Nat.le_of_ble_eq_true rfl) (show Cond.methodLink R_law 36 (gx_y 86) ∈ gx_TBL from gx_in3 83 rfl rfl) (show Cond.initialized (gx_y 86).cls ∈ gx_TBL from gx_in1 5 rfl rfl) (show Cond.instanceMethod (gx_y 86) ∈ gx_TBL from gx_in3 84 rfl rfl) (show Cond.selects (gx_y 86).cls (gx_y 86) (gx_y 86) ∈ gx_TBL from gx_in3 85 rfl rfl) (show (gx_y 86).cls ≠ "java/lang/invoke/MethodHandle" ∧ (gx_y 86).cls ≠ "java/lang/invoke/VarHandle" ∧ (parseMethodDescriptor (gx_y 86).desc).map (fun d => d.parameters.length) = some 3 by decide +kernel) (by decide +kernel) hc2 (fun v u hv => ?_)
  obtain ⟨rfl, hI2⟩ := hv
  exact lt_eq C 567 (show decode code 286 = .ok (.if_icmp .eq 281, 3) by decide +kernel) (by decide) rfl (kk u hI2)
set_option maxHeartbeats 4000000 in
set_option maxRecDepth 100000 in
theorem lw_case5 {X : gx_X} {p : Program} {e : Env} {s : State} {m : MethodId} {below : List Frame} {meth : Method} {c : Code} {b L : Nat} {xs : Nat → Int32} {Inv : gx_M → Prop} {M : gx_M} {i : Nat} (C : lw_C X p s m meth c b L xs) (hp : lw_pair X Inv 36 87 1) (hI : Inv M) (hi : i + 5 ≤ L) (kk : ∀ M1, Inv M1 → lw_T X p e s m below meth c b 567 [.ref 58, .ref 0, .ref 34, .int (nI i)] [] M1) : lw_T X p e s m below meth c b 291 [.ref 58, .ref 0, .ref 34, .int (nI i)] [] M := by
  have hL := C.2.2.2
  have hin1 : vp_in (nI i + 1) L := by rw [show nI i + 1 = nI (i + 1) from nI_add i 1]; exact vp_in_nI (by omega) (by omega)
  have hc := hp M [xs (nI i + 1).toNatClampNeg] rfl hI
  refine lt_aload C (show decode code 291 = .ok (.aload_n 1, 1) by decide +kernel) rfl ?_
  refine lt_aload C (show decode code 292 = .ok (.aload_n 0, 1) by decide +kernel) rfl ?_
  refine lt_iload C (show decode code 293 = .ok (.iload_n 3, 1) by decide +kernel) rfl ?_
  refine lt_iconst (v := 1) C (show decode code 294 = .ok (.iconst 1, 1) by decide +kernel) (by decide) ?_
  refine lt_iadd C (show decode code 295 = .ok (.iadd, 1) by decide +kernel) ?_
  refine lt_sld C (show decode code 296 = .ok (.iaload, 1) by decide +kernel) hin1 ?_
  refine lt_call (ν := 36) (p0 := 0) (as := [.int (xs (nI i + 1).toNatClampNeg)]) (st := []) C (show decode code 297 = .ok (.invokevirtual 37, 3) by decide +kernel) (by decide) rfl (by decide) (Nat.le_of_ble_eq_true rfl) (by intro v hv; simp only [List.mem_cons, List.not_mem_nil, or_false] at hv; rcases hv with rfl | rfl <;> rfl) (by intro v hv; cases hv) (Nat.le_of_ble_eq_true rfl) (show Cond.methodLink R_law 37 (gx_y 36) ∈ gx_TBL from gx_in1 225 rfl rfl) (show Cond.initialized (gx_y 36).cls ∈ gx_TBL from gx_in1 1 rfl rfl) (show Cond.instanceMethod (gx_y 36) ∈ gx_TBL from gx_in1 226 rfl rfl) (show Cond.selects (gx_y 36).cls (gx_y 36) (gx_y 36) ∈ gx_TBL from gx_in1 227 rfl rfl) (show (gx_y 36).cls ≠ "java/lang/invoke/MethodHandle" ∧ (gx_y 36).cls ≠ "java/lang/invoke/VarHandle" ∧ (parseMethodDescriptor (gx_y 36).desc).map (fun d => d.parameters.length) = some 1 by decide +kernel) (by decide +kernel) hc (fun v u hv => ?_)
  obtain ⟨z, rfl, hc2⟩ := hv
  refine lt_aload C (show decode code 300 = .ok (.aload_n 2, 1) by decide +kernel) rfl ?_
  refine lt_aload C (show decode code 301 = .ok (.aload_n 0, 1) by decide +kernel) rfl ?_
  refine lt_iload C (show decode code 302 = .ok (.iload_n 3, 1) by decide +kernel) rfl ?_
  refine lt_iconst (v := 1) C (show decode code 303 = .ok (.iconst 1, 1) by decide +kernel) (by decide) ?_
  refine lt_iadd C (show decode code 304 = .ok (.iadd, 1) by decide +kernel) ?_
  refine lt_sld C (show decode code 305 = .ok (.iaload, 1) by decide +kernel) hin1 ?_
  refine lt_call (ν := 87) (p0 := 34) (as := [.int (xs (nI i + 1).toNatClampNeg)]) (st := [.int z]) C (show decode code 306 = .ok (.invokevirtual 41, 3) by decide +kernel) (by decide) rfl (by decide) (Nat.le_of_ble_eq_true rfl) (by intro v hv; simp only [List.mem_cons, List.not_mem_nil, or_false] at hv; rcases hv with rfl | rfl <;> rfl) (by intro v hv; rcases List.mem_singleton.mp hv with rfl; rfl) (Nat.le_of_ble_eq_true rfl) (show Cond.methodLink R_law 41 (gx_y 87) ∈ gx_TBL from gx_in3 91 rfl rfl) (show Cond.initialized (gx_y 87).cls ∈ gx_TBL from gx_in1 5 rfl rfl) (show Cond.instanceMethod (gx_y 87) ∈ gx_TBL from gx_in3 92 rfl rfl) (show Cond.selects (gx_y 87).cls (gx_y 87) (gx_y 87) ∈ gx_TBL from gx_in3 93 rfl rfl) (show (gx_y 87).cls ≠ "java/lang/invoke/MethodHandle" ∧ (gx_y 87).cls ≠ "java/lang/invoke/VarHandle" ∧ (parseMethodDescriptor (gx_y 87).desc).map (fun d => d.parameters.length) = some 1 by decide +kernel) (by decide +kernel) hc2 (fun v u hv => ?_)
  obtain ⟨rfl, hI2⟩ := hv
  exact lt_eq C 567 (show decode code 309 = .ok (.if_icmp .eq 258, 3) by decide +kernel) (by decide) rfl (kk u hI2)
set_option maxHeartbeats 4000000 in
set_option maxRecDepth 100000 in
theorem lw_case6 {X : gx_X} {p : Program} {e : Env} {s : State} {m : MethodId} {below : List Frame} {meth : Method} {c : Code} {b L : Nat} {xs : Nat → Int32} {Inv : gx_M → Prop} {M : gx_M} {i : Nat} (C : lw_C X p s m meth c b L xs) (hp : lw_pair X Inv 37 88 0) (hI : Inv M) (hi : i + 5 ≤ L) (kk : ∀ M1, Inv M1 → lw_T X p e s m below meth c b 567 [.ref 58, .ref 0, .ref 34, .int (nI i)] [] M1) : lw_T X p e s m below meth c b 314 [.ref 58, .ref 0, .ref 34, .int (nI i)] [] M := by
  have hL := C.2.2.2
  have hc := hp M [] rfl hI
  refine lt_aload C (show decode code 314 = .ok (.aload_n 1, 1) by decide +kernel) rfl ?_
  refine lt_call (ν := 37) (p0 := 0) (as := []) (st := []) C (show decode code 315 = .ok (.invokevirtual 42, 3) by decide +kernel) (by decide) rfl (by decide) (Nat.le_of_ble_eq_true rfl) (by intro v hv; simp only [List.mem_cons, List.not_mem_nil, or_false] at hv; rcases hv with rfl <;> rfl) (by intro v hv; cases hv) (Nat.le_of_ble_eq_true rfl) (show Cond.methodLink R_law 42 (gx_y 37) ∈ gx_TBL from gx_in1 233 rfl rfl) (show Cond.initialized (gx_y 37).cls ∈ gx_TBL from gx_in1 1 rfl rfl) (show Cond.instanceMethod (gx_y 37) ∈ gx_TBL from gx_in1 234 rfl rfl) (show Cond.selects (gx_y 37).cls (gx_y 37) (gx_y 37) ∈ gx_TBL from gx_in1 235 rfl rfl) (show (gx_y 37).cls ≠ "java/lang/invoke/MethodHandle" ∧ (gx_y 37).cls ≠ "java/lang/invoke/VarHandle" ∧ (parseMethodDescriptor (gx_y 37).desc).map (fun d => d.parameters.length) = some 0 by decide +kernel) (by decide +kernel) hc (fun v u hv => ?_)
  obtain ⟨z, rfl, hc2⟩ := hv
  refine lt_aload C (show decode code 318 = .ok (.aload_n 2, 1) by decide +kernel) rfl ?_
  refine lt_call (ν := 88) (p0 := 34) (as := []) (st := [.int z]) C (show decode code 319 = .ok (.invokevirtual 45, 3) by decide +kernel) (by decide) rfl (by decide) (Nat.le_of_ble_eq_true rfl) (by intro v hv; simp only [List.mem_cons, List.not_mem_nil, or_false] at hv; rcases hv with rfl <;> rfl) (by intro v hv; rcases List.mem_singleton.mp hv with rfl; rfl) (Nat.le_of_ble_eq_true rfl) (show Cond.methodLink R_law 45 (gx_y 88) ∈ gx_TBL from gx_in3 95 rfl rfl) (show Cond.initialized (gx_y 88).cls ∈ gx_TBL from gx_in1 5 rfl rfl) (show Cond.instanceMethod (gx_y 88) ∈ gx_TBL from gx_in3 96 rfl rfl) (show Cond.selects (gx_y 88).cls (gx_y 88) (gx_y 88) ∈ gx_TBL from gx_in3 97 rfl rfl) (show (gx_y 88).cls ≠ "java/lang/invoke/MethodHandle" ∧ (gx_y 88).cls ≠ "java/lang/invoke/VarHandle" ∧ (parseMethodDescriptor (gx_y 88).desc).map (fun d => d.parameters.length) = some 0 by decide +kernel) (by decide +kernel) hc2 (fun v u hv => ?_)
  obtain ⟨rfl, hI2⟩ := hv
  exact lt_eq C 567 (show decode code 322 = .ok (.if_icmp .eq 245, 3) by decide +kernel) (by decide) rfl (kk u hI2)
set_option maxHeartbeats 4000000 in
set_option maxRecDepth 100000 in
theorem lw_case7 {X : gx_X} {p : Program} {e : Env} {s : State} {m : MethodId} {below : List Frame} {meth : Method} {c : Code} {b L : Nat} {xs : Nat → Int32} {Inv : gx_M → Prop} {M : gx_M} {i : Nat} (C : lw_C X p s m meth c b L xs) (hp : lw_pair X Inv 38 89 0) (hI : Inv M) (hi : i + 5 ≤ L) (kk : ∀ M1, Inv M1 → lw_T X p e s m below meth c b 567 [.ref 58, .ref 0, .ref 34, .int (nI i)] [] M1) : lw_T X p e s m below meth c b 327 [.ref 58, .ref 0, .ref 34, .int (nI i)] [] M := by
  have hL := C.2.2.2
  have hc := hp M [] rfl hI
  refine lt_aload C (show decode code 327 = .ok (.aload_n 1, 1) by decide +kernel) rfl ?_
  refine lt_call (ν := 38) (p0 := 0) (as := []) (st := []) C (show decode code 328 = .ok (.invokevirtual 46, 3) by decide +kernel) (by decide) rfl (by decide) (Nat.le_of_ble_eq_true rfl) (by intro v hv; simp only [List.mem_cons, List.not_mem_nil, or_false] at hv; rcases hv with rfl <;> rfl) (by intro v hv; cases hv) (Nat.le_of_ble_eq_true rfl) (show Cond.methodLink R_law 46 (gx_y 38) ∈ gx_TBL from gx_in2 1 rfl rfl) (show Cond.initialized (gx_y 38).cls ∈ gx_TBL from gx_in1 1 rfl rfl) (show Cond.instanceMethod (gx_y 38) ∈ gx_TBL from gx_in2 2 rfl rfl) (show Cond.selects (gx_y 38).cls (gx_y 38) (gx_y 38) ∈ gx_TBL from gx_in2 3 rfl rfl) (show (gx_y 38).cls ≠ "java/lang/invoke/MethodHandle" ∧ (gx_y 38).cls ≠ "java/lang/invoke/VarHandle" ∧ (parseMethodDescriptor (gx_y 38).desc).map (fun d => d.parameters.length) = some 0 by decide +kernel) (by decide +kernel) hc (fun v u hv => ?_)
  obtain ⟨z, rfl, hc2⟩ := hv
  refine lt_aload C (show decode code 331 = .ok (.aload_n 2, 1) by decide +kernel) rfl ?_
  refine lt_call (ν := 89) (p0 := 34) (as := []) (st := [.int z]) C (show decode code 332 = .ok (.invokevirtual 49, 3) by decide +kernel) (by decide) rfl (by decide) (Nat.le_of_ble_eq_true rfl) (by intro v hv; simp only [List.mem_cons, List.not_mem_nil, or_false] at hv; rcases hv with rfl <;> rfl) (by intro v hv; rcases List.mem_singleton.mp hv with rfl; rfl) (Nat.le_of_ble_eq_true rfl) (show Cond.methodLink R_law 49 (gx_y 89) ∈ gx_TBL from gx_in3 99 rfl rfl) (show Cond.initialized (gx_y 89).cls ∈ gx_TBL from gx_in1 5 rfl rfl) (show Cond.instanceMethod (gx_y 89) ∈ gx_TBL from gx_in3 100 rfl rfl) (show Cond.selects (gx_y 89).cls (gx_y 89) (gx_y 89) ∈ gx_TBL from gx_in3 101 rfl rfl) (show (gx_y 89).cls ≠ "java/lang/invoke/MethodHandle" ∧ (gx_y 89).cls ≠ "java/lang/invoke/VarHandle" ∧ (parseMethodDescriptor (gx_y 89).desc).map (fun d => d.parameters.length) = some 0 by decide +kernel) (by decide +kernel) hc2 (fun v u hv => ?_)
  obtain ⟨rfl, hI2⟩ := hv
  exact lt_eq C 567 (show decode code 335 = .ok (.if_icmp .eq 232, 3) by decide +kernel) (by decide) rfl (kk u hI2)
set_option maxHeartbeats 4000000 in
set_option maxRecDepth 100000 in
theorem lw_case8 {X : gx_X} {p : Program} {e : Env} {s : State} {m : MethodId} {below : List Frame} {meth : Method} {c : Code} {b L : Nat} {xs : Nat → Int32} {Inv : gx_M → Prop} {M : gx_M} {i : Nat} (C : lw_C X p s m meth c b L xs) (hp : lw_pair X Inv 39 91 1) (hI : Inv M) (hi : i + 5 ≤ L) (kk : ∀ M1, Inv M1 → lw_T X p e s m below meth c b 567 [.ref 58, .ref 0, .ref 34, .int (nI i)] [] M1) : lw_T X p e s m below meth c b 340 [.ref 58, .ref 0, .ref 34, .int (nI i)] [] M := by
  have hL := C.2.2.2
  have hin1 : vp_in (nI i + 1) L := by rw [show nI i + 1 = nI (i + 1) from nI_add i 1]; exact vp_in_nI (by omega) (by omega)
  have hc := hp M [xs (nI i + 1).toNatClampNeg] rfl hI
  refine lt_aload C (show decode code 340 = .ok (.aload_n 1, 1) by decide +kernel) rfl ?_
  refine lt_aload C (show decode code 341 = .ok (.aload_n 0, 1) by decide +kernel) rfl ?_
  refine lt_iload C (show decode code 342 = .ok (.iload_n 3, 1) by decide +kernel) rfl ?_
  refine lt_iconst (v := 1) C (show decode code 343 = .ok (.iconst 1, 1) by decide +kernel) (by decide) ?_
  refine lt_iadd C (show decode code 344 = .ok (.iadd, 1) by decide +kernel) ?_
  refine lt_sld C (show decode code 345 = .ok (.iaload, 1) by decide +kernel) hin1 ?_
  refine lt_call (ν := 39) (p0 := 0) (as := [.int (xs (nI i + 1).toNatClampNeg)]) (st := []) C (show decode code 346 = .ok (.invokevirtual 50, 3) by decide +kernel) (by decide) rfl (by decide) (Nat.le_of_ble_eq_true rfl) (by intro v hv; simp only [List.mem_cons, List.not_mem_nil, or_false] at hv; rcases hv with rfl | rfl <;> rfl) (by intro v hv; cases hv) (Nat.le_of_ble_eq_true rfl) (show Cond.methodLink R_law 50 (gx_y 39) ∈ gx_TBL from gx_in2 81 rfl rfl) (show Cond.initialized (gx_y 39).cls ∈ gx_TBL from gx_in1 1 rfl rfl) (show Cond.instanceMethod (gx_y 39) ∈ gx_TBL from gx_in2 82 rfl rfl) (show Cond.selects (gx_y 39).cls (gx_y 39) (gx_y 39) ∈ gx_TBL from gx_in2 83 rfl rfl) (show (gx_y 39).cls ≠ "java/lang/invoke/MethodHandle" ∧ (gx_y 39).cls ≠ "java/lang/invoke/VarHandle" ∧ (parseMethodDescriptor (gx_y 39).desc).map (fun d => d.parameters.length) = some 1 by decide +kernel) (by decide +kernel) hc (fun v u hv => ?_)
  obtain ⟨z, rfl, hc2⟩ := hv
  refine lt_aload C (show decode code 349 = .ok (.aload_n 2, 1) by decide +kernel) rfl ?_
  refine lt_aload C (show decode code 350 = .ok (.aload_n 0, 1) by decide +kernel) rfl ?_
  refine lt_iload C (show decode code 351 = .ok (.iload_n 3, 1) by decide +kernel) rfl ?_
  refine lt_iconst (v := 1) C (show decode code 352 = .ok (.iconst 1, 1) by decide +kernel) (by decide) ?_
  refine lt_iadd C (show decode code 353 = .ok (.iadd, 1) by decide +kernel) ?_
  refine lt_sld C (show decode code 354 = .ok (.iaload, 1) by decide +kernel) hin1 ?_
  refine lt_call (ν := 91) (p0 := 34) (as := [.int (xs (nI i + 1).toNatClampNeg)]) (st := [.int z]) C (show decode code 355 = .ok (.invokevirtual 53, 3) by decide +kernel) (by decide) rfl (by decide) (Nat.le_of_ble_eq_true rfl) (by intro v hv; simp only [List.mem_cons, List.not_mem_nil, or_false] at hv; rcases hv with rfl | rfl <;> rfl) (by intro v hv; rcases List.mem_singleton.mp hv with rfl; rfl) (Nat.le_of_ble_eq_true rfl) (show Cond.methodLink R_law 53 (gx_y 91) ∈ gx_TBL from gx_in3 176 rfl rfl) (show Cond.initialized (gx_y 91).cls ∈ gx_TBL from gx_in1 5 rfl rfl) (show Cond.instanceMethod (gx_y 91) ∈ gx_TBL from gx_in3 177 rfl rfl) (show Cond.selects (gx_y 91).cls (gx_y 91) (gx_y 91) ∈ gx_TBL from gx_in3 178 rfl rfl) (show (gx_y 91).cls ≠ "java/lang/invoke/MethodHandle" ∧ (gx_y 91).cls ≠ "java/lang/invoke/VarHandle" ∧ (parseMethodDescriptor (gx_y 91).desc).map (fun d => d.parameters.length) = some 1 by decide +kernel) (by decide +kernel) hc2 (fun v u hv => ?_)
  obtain ⟨rfl, hI2⟩ := hv
  exact lt_eq C 567 (show decode code 358 = .ok (.if_icmp .eq 209, 3) by decide +kernel) (by decide) rfl (kk u hI2)
set_option maxHeartbeats 4000000 in
set_option maxRecDepth 100000 in
theorem lw_case9 {X : gx_X} {p : Program} {e : Env} {s : State} {m : MethodId} {below : List Frame} {meth : Method} {c : Code} {b L : Nat} {xs : Nat → Int32} {Inv : gx_M → Prop} {M : gx_M} {i : Nat} (C : lw_C X p s m meth c b L xs) (hp : lw_pair X Inv 40 92 2) (hI : Inv M) (hi : i + 5 ≤ L) (kk : ∀ M1, Inv M1 → lw_T X p e s m below meth c b 567 [.ref 58, .ref 0, .ref 34, .int (nI i)] [] M1) : lw_T X p e s m below meth c b 363 [.ref 58, .ref 0, .ref 34, .int (nI i)] [] M := by
  have hL := C.2.2.2
  have hin1 : vp_in (nI i + 1) L := by rw [show nI i + 1 = nI (i + 1) from nI_add i 1]; exact vp_in_nI (by omega) (by omega)
  have hin2 : vp_in (nI i + 2) L := by rw [show nI i + 2 = nI (i + 2) from nI_add i 2]; exact vp_in_nI (by omega) (by omega)
  have hc := hp M [xs (nI i + 1).toNatClampNeg, xs (nI i + 2).toNatClampNeg] rfl hI
  refine lt_aload C (show decode code 363 = .ok (.aload_n 1, 1) by decide +kernel) rfl ?_
  refine lt_aload C (show decode code 364 = .ok (.aload_n 0, 1) by decide +kernel) rfl ?_
  refine lt_iload C (show decode code 365 = .ok (.iload_n 3, 1) by decide +kernel) rfl ?_
  refine lt_iconst (v := 1) C (show decode code 366 = .ok (.iconst 1, 1) by decide +kernel) (by decide) ?_
  refine lt_iadd C (show decode code 367 = .ok (.iadd, 1) by decide +kernel) ?_
  refine lt_sld C (show decode code 368 = .ok (.iaload, 1) by decide +kernel) hin1 ?_
  refine lt_aload C (show decode code 369 = .ok (.aload_n 0, 1) by decide +kernel) rfl ?_
  refine lt_iload C (show decode code 370 = .ok (.iload_n 3, 1) by decide +kernel) rfl ?_
  refine lt_iconst (v := 2) C (show decode code 371 = .ok (.iconst 2, 1) by decide +kernel) (by decide) ?_
  refine lt_iadd C (show decode code 372 = .ok (.iadd, 1) by decide +kernel) ?_
  refine lt_sld C (show decode code 373 = .ok (.iaload, 1) by decide +kernel) hin2 ?_
  refine lt_call (ν := 40) (p0 := 0) (as := [.int (xs (nI i + 1).toNatClampNeg), .int (xs (nI i + 2).toNatClampNeg)]) (st := []) C (show decode code 374 = .ok (.invokevirtual 54, 3) by decide +kernel) (by decide) rfl (by decide) (Nat.le_of_ble_eq_true rfl) (by intro v hv; simp only [List.mem_cons, List.not_mem_nil, or_false] at hv; rcases hv with rfl | rfl | rfl <;> rfl) (by intro v hv; cases hv) (Nat.le_of_ble_eq_true rfl) (show Cond.methodLink R_law 54 (gx_y 40) ∈ gx_TBL from gx_in2 105 rfl rfl) (show Cond.initialized (gx_y 40).cls ∈ gx_TBL from gx_in1 1 rfl rfl) (show Cond.instanceMethod (gx_y 40) ∈ gx_TBL from gx_in2 106 rfl rfl) (show Cond.selects (gx_y 40).cls (gx_y 40) (gx_y 40) ∈ gx_TBL from gx_in2 107 rfl rfl) (show (gx_y 40).cls ≠ "java/lang/invoke/MethodHandle" ∧ (gx_y 40).cls ≠ "java/lang/invoke/VarHandle" ∧ (parseMethodDescriptor (gx_y 40).desc).map (fun d => d.parameters.length) = some 2 by decide +kernel) (by decide +kernel) hc (fun v u hv => ?_)
  obtain ⟨z, rfl, hc2⟩ := hv
  refine lt_aload C (show decode code 377 = .ok (.aload_n 2, 1) by decide +kernel) rfl ?_
  refine lt_aload C (show decode code 378 = .ok (.aload_n 0, 1) by decide +kernel) rfl ?_
  refine lt_iload C (show decode code 379 = .ok (.iload_n 3, 1) by decide +kernel) rfl ?_
  refine lt_iconst (v := 1) C (show decode code 380 = .ok (.iconst 1, 1) by decide +kernel) (by decide) ?_
  refine lt_iadd C (show decode code 381 = .ok (.iadd, 1) by decide +kernel) ?_
  refine lt_sld C (show decode code 382 = .ok (.iaload, 1) by decide +kernel) hin1 ?_
  refine lt_aload C (show decode code 383 = .ok (.aload_n 0, 1) by decide +kernel) rfl ?_
  refine lt_iload C (show decode code 384 = .ok (.iload_n 3, 1) by decide +kernel) rfl ?_
  refine lt_iconst (v := 2) C (show decode code 385 = .ok (.iconst 2, 1) by decide +kernel) (by decide) ?_
  refine lt_iadd C (show decode code 386 = .ok (.iadd, 1) by decide +kernel) ?_
  refine lt_sld C (show decode code 387 = .ok (.iaload, 1) by decide +kernel) hin2 ?_
  refine lt_call (ν := 92) (p0 := 34) (as := [.int (xs (nI i + 1).toNatClampNeg), .int (xs (nI i + 2).toNatClampNeg)]) (st := [.int z]) C (show decode code 388 = .ok (.invokevirtual 57, 3) by decide +kernel) (by decide) rfl (by decide) (Nat.le_of_ble_eq_true rfl) (by intro v hv; simp only [List.mem_cons, List.not_mem_nil, or_false] at hv; rcases hv with rfl | rfl | rfl <;> rfl) (by intro v hv; rcases List.mem_singleton.mp hv with rfl; rfl) (Nat.le_of_ble_eq_true rfl) (show Cond.methodLink R_law 57 (gx_y 92) ∈ gx_TBL from gx_in3 183 rfl rfl) (show Cond.initialized (gx_y 92).cls ∈ gx_TBL from gx_in1 5 rfl rfl) (show Cond.instanceMethod (gx_y 92) ∈ gx_TBL from gx_in3 184 rfl rfl) (show Cond.selects (gx_y 92).cls (gx_y 92) (gx_y 92) ∈ gx_TBL from gx_in3 185 rfl rfl) (show (gx_y 92).cls ≠ "java/lang/invoke/MethodHandle" ∧ (gx_y 92).cls ≠ "java/lang/invoke/VarHandle" ∧ (parseMethodDescriptor (gx_y 92).desc).map (fun d => d.parameters.length) = some 2 by decide +kernel) (by decide +kernel) hc2 (fun v u hv => ?_)
  obtain ⟨rfl, hI2⟩ := hv
  exact lt_eq C 567 (show decode code 391 = .ok (.if_icmp .eq 176, 3) by decide +kernel) (by decide) rfl (kk u hI2)
set_option maxHeartbeats 4000000 in
set_option maxRecDepth 100000 in
theorem lw_case10 {X : gx_X} {p : Program} {e : Env} {s : State} {m : MethodId} {below : List Frame} {meth : Method} {c : Code} {b L : Nat} {xs : Nat → Int32} {Inv : gx_M → Prop} {M : gx_M} {i : Nat} (C : lw_C X p s m meth c b L xs) (hp : lw_pair X Inv 41 93 2) (hI : Inv M) (hi : i + 5 ≤ L) (kk : ∀ M1, Inv M1 → lw_T X p e s m below meth c b 567 [.ref 58, .ref 0, .ref 34, .int (nI i)] [] M1) : lw_T X p e s m below meth c b 396 [.ref 58, .ref 0, .ref 34, .int (nI i)] [] M := by
  have hL := C.2.2.2
  have hin1 : vp_in (nI i + 1) L := by rw [show nI i + 1 = nI (i + 1) from nI_add i 1]; exact vp_in_nI (by omega) (by omega)
  have hin2 : vp_in (nI i + 2) L := by rw [show nI i + 2 = nI (i + 2) from nI_add i 2]; exact vp_in_nI (by omega) (by omega)
  have hc := hp M [xs (nI i + 1).toNatClampNeg, xs (nI i + 2).toNatClampNeg] rfl hI
  refine lt_aload C (show decode code 396 = .ok (.aload_n 1, 1) by decide +kernel) rfl ?_
  refine lt_aload C (show decode code 397 = .ok (.aload_n 0, 1) by decide +kernel) rfl ?_
  refine lt_iload C (show decode code 398 = .ok (.iload_n 3, 1) by decide +kernel) rfl ?_
  refine lt_iconst (v := 1) C (show decode code 399 = .ok (.iconst 1, 1) by decide +kernel) (by decide) ?_
  refine lt_iadd C (show decode code 400 = .ok (.iadd, 1) by decide +kernel) ?_
  refine lt_sld C (show decode code 401 = .ok (.iaload, 1) by decide +kernel) hin1 ?_
  refine lt_aload C (show decode code 402 = .ok (.aload_n 0, 1) by decide +kernel) rfl ?_
  refine lt_iload C (show decode code 403 = .ok (.iload_n 3, 1) by decide +kernel) rfl ?_
  refine lt_iconst (v := 2) C (show decode code 404 = .ok (.iconst 2, 1) by decide +kernel) (by decide) ?_
  refine lt_iadd C (show decode code 405 = .ok (.iadd, 1) by decide +kernel) ?_
  refine lt_sld C (show decode code 406 = .ok (.iaload, 1) by decide +kernel) hin2 ?_
  refine lt_call (ν := 41) (p0 := 0) (as := [.int (xs (nI i + 1).toNatClampNeg), .int (xs (nI i + 2).toNatClampNeg)]) (st := []) C (show decode code 407 = .ok (.invokevirtual 58, 3) by decide +kernel) (by decide) rfl (by decide) (Nat.le_of_ble_eq_true rfl) (by intro v hv; simp only [List.mem_cons, List.not_mem_nil, or_false] at hv; rcases hv with rfl | rfl | rfl <;> rfl) (by intro v hv; cases hv) (Nat.le_of_ble_eq_true rfl) (show Cond.methodLink R_law 58 (gx_y 41) ∈ gx_TBL from gx_in2 109 rfl rfl) (show Cond.initialized (gx_y 41).cls ∈ gx_TBL from gx_in1 1 rfl rfl) (show Cond.instanceMethod (gx_y 41) ∈ gx_TBL from gx_in2 110 rfl rfl) (show Cond.selects (gx_y 41).cls (gx_y 41) (gx_y 41) ∈ gx_TBL from gx_in2 111 rfl rfl) (show (gx_y 41).cls ≠ "java/lang/invoke/MethodHandle" ∧ (gx_y 41).cls ≠ "java/lang/invoke/VarHandle" ∧ (parseMethodDescriptor (gx_y 41).desc).map (fun d => d.parameters.length) = some 2 by decide +kernel) (by decide +kernel) hc (fun v u hv => ?_)
  obtain ⟨z, rfl, hc2⟩ := hv
  refine lt_aload C (show decode code 410 = .ok (.aload_n 2, 1) by decide +kernel) rfl ?_
  refine lt_aload C (show decode code 411 = .ok (.aload_n 0, 1) by decide +kernel) rfl ?_
  refine lt_iload C (show decode code 412 = .ok (.iload_n 3, 1) by decide +kernel) rfl ?_
  refine lt_iconst (v := 1) C (show decode code 413 = .ok (.iconst 1, 1) by decide +kernel) (by decide) ?_
  refine lt_iadd C (show decode code 414 = .ok (.iadd, 1) by decide +kernel) ?_
  refine lt_sld C (show decode code 415 = .ok (.iaload, 1) by decide +kernel) hin1 ?_
  refine lt_aload C (show decode code 416 = .ok (.aload_n 0, 1) by decide +kernel) rfl ?_
  refine lt_iload C (show decode code 417 = .ok (.iload_n 3, 1) by decide +kernel) rfl ?_
  refine lt_iconst (v := 2) C (show decode code 418 = .ok (.iconst 2, 1) by decide +kernel) (by decide) ?_
  refine lt_iadd C (show decode code 419 = .ok (.iadd, 1) by decide +kernel) ?_
  refine lt_sld C (show decode code 420 = .ok (.iaload, 1) by decide +kernel) hin2 ?_
  refine lt_call (ν := 93) (p0 := 34) (as := [.int (xs (nI i + 1).toNatClampNeg), .int (xs (nI i + 2).toNatClampNeg)]) (st := [.int z]) C (show decode code 421 = .ok (.invokevirtual 61, 3) by decide +kernel) (by decide) rfl (by decide) (Nat.le_of_ble_eq_true rfl) (by intro v hv; simp only [List.mem_cons, List.not_mem_nil, or_false] at hv; rcases hv with rfl | rfl | rfl <;> rfl) (by intro v hv; rcases List.mem_singleton.mp hv with rfl; rfl) (Nat.le_of_ble_eq_true rfl) (show Cond.methodLink R_law 61 (gx_y 93) ∈ gx_TBL from gx_in3 187 rfl rfl) (show Cond.initialized (gx_y 93).cls ∈ gx_TBL from gx_in1 5 rfl rfl) (show Cond.instanceMethod (gx_y 93) ∈ gx_TBL from gx_in3 188 rfl rfl) (show Cond.selects (gx_y 93).cls (gx_y 93) (gx_y 93) ∈ gx_TBL from gx_in3 189 rfl rfl) (show (gx_y 93).cls ≠ "java/lang/invoke/MethodHandle" ∧ (gx_y 93).cls ≠ "java/lang/invoke/VarHandle" ∧ (parseMethodDescriptor (gx_y 93).desc).map (fun d => d.parameters.length) = some 2 by decide +kernel) (by decide +kernel) hc2 (fun v u hv => ?_)
  obtain ⟨rfl, hI2⟩ := hv
  exact lt_eq C 567 (show decode code 424 = .ok (.if_icmp .eq 143, 3) by decide +kernel) (by decide) rfl (kk u hI2)
set_option maxHeartbeats 4000000 in
set_option maxRecDepth 100000 in
theorem lw_case11 {X : gx_X} {p : Program} {e : Env} {s : State} {m : MethodId} {below : List Frame} {meth : Method} {c : Code} {b L : Nat} {xs : Nat → Int32} {Inv : gx_M → Prop} {M : gx_M} {i : Nat} (C : lw_C X p s m meth c b L xs) (hp : lw_pair X Inv 42 95 1) (hI : Inv M) (hi : i + 5 ≤ L) (kk : ∀ M1, Inv M1 → lw_T X p e s m below meth c b 567 [.ref 58, .ref 0, .ref 34, .int (nI i)] [] M1) : lw_T X p e s m below meth c b 429 [.ref 58, .ref 0, .ref 34, .int (nI i)] [] M := by
  have hL := C.2.2.2
  have hin1 : vp_in (nI i + 1) L := by rw [show nI i + 1 = nI (i + 1) from nI_add i 1]; exact vp_in_nI (by omega) (by omega)
  have hc := hp M [xs (nI i + 1).toNatClampNeg] rfl hI
  refine lt_aload C (show decode code 429 = .ok (.aload_n 1, 1) by decide +kernel) rfl ?_
  refine lt_aload C (show decode code 430 = .ok (.aload_n 0, 1) by decide +kernel) rfl ?_
  refine lt_iload C (show decode code 431 = .ok (.iload_n 3, 1) by decide +kernel) rfl ?_
  refine lt_iconst (v := 1) C (show decode code 432 = .ok (.iconst 1, 1) by decide +kernel) (by decide) ?_
  refine lt_iadd C (show decode code 433 = .ok (.iadd, 1) by decide +kernel) ?_
  refine lt_sld C (show decode code 434 = .ok (.iaload, 1) by decide +kernel) hin1 ?_
  refine lt_call (ν := 42) (p0 := 0) (as := [.int (xs (nI i + 1).toNatClampNeg)]) (st := []) C (show decode code 435 = .ok (.invokevirtual 62, 3) by decide +kernel) (by decide) rfl (by decide) (Nat.le_of_ble_eq_true rfl) (by intro v hv; simp only [List.mem_cons, List.not_mem_nil, or_false] at hv; rcases hv with rfl | rfl <;> rfl) (by intro v hv; cases hv) (Nat.le_of_ble_eq_true rfl) (show Cond.methodLink R_law 62 (gx_y 42) ∈ gx_TBL from gx_in2 124 rfl rfl) (show Cond.initialized (gx_y 42).cls ∈ gx_TBL from gx_in1 1 rfl rfl) (show Cond.instanceMethod (gx_y 42) ∈ gx_TBL from gx_in2 125 rfl rfl) (show Cond.selects (gx_y 42).cls (gx_y 42) (gx_y 42) ∈ gx_TBL from gx_in2 126 rfl rfl) (show (gx_y 42).cls ≠ "java/lang/invoke/MethodHandle" ∧ (gx_y 42).cls ≠ "java/lang/invoke/VarHandle" ∧ (parseMethodDescriptor (gx_y 42).desc).map (fun d => d.parameters.length) = some 1 by decide +kernel) (by decide +kernel) hc (fun v u hv => ?_)
  obtain ⟨z, rfl, hc2⟩ := hv
  refine lt_aload C (show decode code 438 = .ok (.aload_n 2, 1) by decide +kernel) rfl ?_
  refine lt_aload C (show decode code 439 = .ok (.aload_n 0, 1) by decide +kernel) rfl ?_
  refine lt_iload C (show decode code 440 = .ok (.iload_n 3, 1) by decide +kernel) rfl ?_
  refine lt_iconst (v := 1) C (show decode code 441 = .ok (.iconst 1, 1) by decide +kernel) (by decide) ?_
  refine lt_iadd C (show decode code 442 = .ok (.iadd, 1) by decide +kernel) ?_
  refine lt_sld C (show decode code 443 = .ok (.iaload, 1) by decide +kernel) hin1 ?_
  refine lt_call (ν := 95) (p0 := 34) (as := [.int (xs (nI i + 1).toNatClampNeg)]) (st := [.int z]) C (show decode code 444 = .ok (.invokevirtual 65, 3) by decide +kernel) (by decide) rfl (by decide) (Nat.le_of_ble_eq_true rfl) (by intro v hv; simp only [List.mem_cons, List.not_mem_nil, or_false] at hv; rcases hv with rfl | rfl <;> rfl) (by intro v hv; rcases List.mem_singleton.mp hv with rfl; rfl) (Nat.le_of_ble_eq_true rfl) (show Cond.methodLink R_law 65 (gx_y 95) ∈ gx_TBL from gx_in3 191 rfl rfl) (show Cond.initialized (gx_y 95).cls ∈ gx_TBL from gx_in1 5 rfl rfl) (show Cond.instanceMethod (gx_y 95) ∈ gx_TBL from gx_in3 192 rfl rfl) (show Cond.selects (gx_y 95).cls (gx_y 95) (gx_y 95) ∈ gx_TBL from gx_in3 193 rfl rfl) (show (gx_y 95).cls ≠ "java/lang/invoke/MethodHandle" ∧ (gx_y 95).cls ≠ "java/lang/invoke/VarHandle" ∧ (parseMethodDescriptor (gx_y 95).desc).map (fun d => d.parameters.length) = some 1 by decide +kernel) (by decide +kernel) hc2 (fun v u hv => ?_)
  obtain ⟨rfl, hI2⟩ := hv
  exact lt_eq C 567 (show decode code 447 = .ok (.if_icmp .eq 120, 3) by decide +kernel) (by decide) rfl (kk u hI2)
set_option maxHeartbeats 4000000 in
set_option maxRecDepth 100000 in
theorem lw_case12 {X : gx_X} {p : Program} {e : Env} {s : State} {m : MethodId} {below : List Frame} {meth : Method} {c : Code} {b L : Nat} {xs : Nat → Int32} {Inv : gx_M → Prop} {M : gx_M} {i : Nat} (C : lw_C X p s m meth c b L xs) (hp : lw_pair X Inv 43 96 1) (hI : Inv M) (hi : i + 5 ≤ L) (kk : ∀ M1, Inv M1 → lw_T X p e s m below meth c b 567 [.ref 58, .ref 0, .ref 34, .int (nI i)] [] M1) : lw_T X p e s m below meth c b 452 [.ref 58, .ref 0, .ref 34, .int (nI i)] [] M := by
  have hL := C.2.2.2
  have hin1 : vp_in (nI i + 1) L := by rw [show nI i + 1 = nI (i + 1) from nI_add i 1]; exact vp_in_nI (by omega) (by omega)
  have hc := hp M [xs (nI i + 1).toNatClampNeg] rfl hI
  refine lt_aload C (show decode code 452 = .ok (.aload_n 1, 1) by decide +kernel) rfl ?_
  refine lt_aload C (show decode code 453 = .ok (.aload_n 0, 1) by decide +kernel) rfl ?_
  refine lt_iload C (show decode code 454 = .ok (.iload_n 3, 1) by decide +kernel) rfl ?_
  refine lt_iconst (v := 1) C (show decode code 455 = .ok (.iconst 1, 1) by decide +kernel) (by decide) ?_
  refine lt_iadd C (show decode code 456 = .ok (.iadd, 1) by decide +kernel) ?_
  refine lt_sld C (show decode code 457 = .ok (.iaload, 1) by decide +kernel) hin1 ?_
  refine lt_call (ν := 43) (p0 := 0) (as := [.int (xs (nI i + 1).toNatClampNeg)]) (st := []) C (show decode code 458 = .ok (.invokevirtual 66, 3) by decide +kernel) (by decide) rfl (by decide) (Nat.le_of_ble_eq_true rfl) (by intro v hv; simp only [List.mem_cons, List.not_mem_nil, or_false] at hv; rcases hv with rfl | rfl <;> rfl) (by intro v hv; cases hv) (Nat.le_of_ble_eq_true rfl) (show Cond.methodLink R_law 66 (gx_y 43) ∈ gx_TBL from gx_in2 136 rfl rfl) (show Cond.initialized (gx_y 43).cls ∈ gx_TBL from gx_in1 1 rfl rfl) (show Cond.instanceMethod (gx_y 43) ∈ gx_TBL from gx_in2 137 rfl rfl) (show Cond.selects (gx_y 43).cls (gx_y 43) (gx_y 43) ∈ gx_TBL from gx_in2 138 rfl rfl) (show (gx_y 43).cls ≠ "java/lang/invoke/MethodHandle" ∧ (gx_y 43).cls ≠ "java/lang/invoke/VarHandle" ∧ (parseMethodDescriptor (gx_y 43).desc).map (fun d => d.parameters.length) = some 1 by decide +kernel) (by decide +kernel) hc (fun v u hv => ?_)
  obtain ⟨z, rfl, hc2⟩ := hv
  refine lt_aload C (show decode code 461 = .ok (.aload_n 2, 1) by decide +kernel) rfl ?_
  refine lt_aload C (show decode code 462 = .ok (.aload_n 0, 1) by decide +kernel) rfl ?_
  refine lt_iload C (show decode code 463 = .ok (.iload_n 3, 1) by decide +kernel) rfl ?_
  refine lt_iconst (v := 1) C (show decode code 464 = .ok (.iconst 1, 1) by decide +kernel) (by decide) ?_
  refine lt_iadd C (show decode code 465 = .ok (.iadd, 1) by decide +kernel) ?_
  refine lt_sld C (show decode code 466 = .ok (.iaload, 1) by decide +kernel) hin1 ?_
  refine lt_call (ν := 96) (p0 := 34) (as := [.int (xs (nI i + 1).toNatClampNeg)]) (st := [.int z]) C (show decode code 467 = .ok (.invokevirtual 69, 3) by decide +kernel) (by decide) rfl (by decide) (Nat.le_of_ble_eq_true rfl) (by intro v hv; simp only [List.mem_cons, List.not_mem_nil, or_false] at hv; rcases hv with rfl | rfl <;> rfl) (by intro v hv; rcases List.mem_singleton.mp hv with rfl; rfl) (Nat.le_of_ble_eq_true rfl) (show Cond.methodLink R_law 69 (gx_y 96) ∈ gx_TBL from gx_in3 199 rfl rfl) (show Cond.initialized (gx_y 96).cls ∈ gx_TBL from gx_in1 5 rfl rfl) (show Cond.instanceMethod (gx_y 96) ∈ gx_TBL from gx_in3 200 rfl rfl) (show Cond.selects (gx_y 96).cls (gx_y 96) (gx_y 96) ∈ gx_TBL from gx_in3 201 rfl rfl) (show (gx_y 96).cls ≠ "java/lang/invoke/MethodHandle" ∧ (gx_y 96).cls ≠ "java/lang/invoke/VarHandle" ∧ (parseMethodDescriptor (gx_y 96).desc).map (fun d => d.parameters.length) = some 1 by decide +kernel) (by decide +kernel) hc2 (fun v u hv => ?_)
  obtain ⟨rfl, hI2⟩ := hv
  exact lt_eq C 567 (show decode code 470 = .ok (.if_icmp .eq 97, 3) by decide +kernel) (by decide) rfl (kk u hI2)
set_option maxHeartbeats 4000000 in
set_option maxRecDepth 100000 in
theorem lw_case13 {X : gx_X} {p : Program} {e : Env} {s : State} {m : MethodId} {below : List Frame} {meth : Method} {c : Code} {b L : Nat} {xs : Nat → Int32} {Inv : gx_M → Prop} {M : gx_M} {i : Nat} (C : lw_C X p s m meth c b L xs) (hp : lw_pair X Inv 44 97 1) (hI : Inv M) (hi : i + 5 ≤ L) (kk : ∀ M1, Inv M1 → lw_T X p e s m below meth c b 567 [.ref 58, .ref 0, .ref 34, .int (nI i)] [] M1) : lw_T X p e s m below meth c b 475 [.ref 58, .ref 0, .ref 34, .int (nI i)] [] M := by
  have hL := C.2.2.2
  have hin1 : vp_in (nI i + 1) L := by rw [show nI i + 1 = nI (i + 1) from nI_add i 1]; exact vp_in_nI (by omega) (by omega)
  have hc := hp M [xs (nI i + 1).toNatClampNeg] rfl hI
  refine lt_aload C (show decode code 475 = .ok (.aload_n 1, 1) by decide +kernel) rfl ?_
  refine lt_aload C (show decode code 476 = .ok (.aload_n 0, 1) by decide +kernel) rfl ?_
  refine lt_iload C (show decode code 477 = .ok (.iload_n 3, 1) by decide +kernel) rfl ?_
  refine lt_iconst (v := 1) C (show decode code 478 = .ok (.iconst 1, 1) by decide +kernel) (by decide) ?_
  refine lt_iadd C (show decode code 479 = .ok (.iadd, 1) by decide +kernel) ?_
  refine lt_sld C (show decode code 480 = .ok (.iaload, 1) by decide +kernel) hin1 ?_
  refine lt_call (ν := 44) (p0 := 0) (as := [.int (xs (nI i + 1).toNatClampNeg)]) (st := []) C (show decode code 481 = .ok (.invokevirtual 70, 3) by decide +kernel) (by decide) rfl (by decide) (Nat.le_of_ble_eq_true rfl) (by intro v hv; simp only [List.mem_cons, List.not_mem_nil, or_false] at hv; rcases hv with rfl | rfl <;> rfl) (by intro v hv; cases hv) (Nat.le_of_ble_eq_true rfl) (show Cond.methodLink R_law 70 (gx_y 44) ∈ gx_TBL from gx_in2 140 rfl rfl) (show Cond.initialized (gx_y 44).cls ∈ gx_TBL from gx_in1 1 rfl rfl) (show Cond.instanceMethod (gx_y 44) ∈ gx_TBL from gx_in2 141 rfl rfl) (show Cond.selects (gx_y 44).cls (gx_y 44) (gx_y 44) ∈ gx_TBL from gx_in2 142 rfl rfl) (show (gx_y 44).cls ≠ "java/lang/invoke/MethodHandle" ∧ (gx_y 44).cls ≠ "java/lang/invoke/VarHandle" ∧ (parseMethodDescriptor (gx_y 44).desc).map (fun d => d.parameters.length) = some 1 by decide +kernel) (by decide +kernel) hc (fun v u hv => ?_)
  obtain ⟨z, rfl, hc2⟩ := hv
  refine lt_aload C (show decode code 484 = .ok (.aload_n 2, 1) by decide +kernel) rfl ?_
  refine lt_aload C (show decode code 485 = .ok (.aload_n 0, 1) by decide +kernel) rfl ?_
  refine lt_iload C (show decode code 486 = .ok (.iload_n 3, 1) by decide +kernel) rfl ?_
  refine lt_iconst (v := 1) C (show decode code 487 = .ok (.iconst 1, 1) by decide +kernel) (by decide) ?_
  refine lt_iadd C (show decode code 488 = .ok (.iadd, 1) by decide +kernel) ?_
  refine lt_sld C (show decode code 489 = .ok (.iaload, 1) by decide +kernel) hin1 ?_
  refine lt_call (ν := 97) (p0 := 34) (as := [.int (xs (nI i + 1).toNatClampNeg)]) (st := [.int z]) C (show decode code 490 = .ok (.invokevirtual 73, 3) by decide +kernel) (by decide) rfl (by decide) (Nat.le_of_ble_eq_true rfl) (by intro v hv; simp only [List.mem_cons, List.not_mem_nil, or_false] at hv; rcases hv with rfl | rfl <;> rfl) (by intro v hv; rcases List.mem_singleton.mp hv with rfl; rfl) (Nat.le_of_ble_eq_true rfl) (show Cond.methodLink R_law 73 (gx_y 97) ∈ gx_TBL from gx_in3 203 rfl rfl) (show Cond.initialized (gx_y 97).cls ∈ gx_TBL from gx_in1 5 rfl rfl) (show Cond.instanceMethod (gx_y 97) ∈ gx_TBL from gx_in3 204 rfl rfl) (show Cond.selects (gx_y 97).cls (gx_y 97) (gx_y 97) ∈ gx_TBL from gx_in3 205 rfl rfl) (show (gx_y 97).cls ≠ "java/lang/invoke/MethodHandle" ∧ (gx_y 97).cls ≠ "java/lang/invoke/VarHandle" ∧ (parseMethodDescriptor (gx_y 97).desc).map (fun d => d.parameters.length) = some 1 by decide +kernel) (by decide +kernel) hc2 (fun v u hv => ?_)
  obtain ⟨rfl, hI2⟩ := hv
  exact lt_eq C 567 (show decode code 493 = .ok (.if_icmp .eq 74, 3) by decide +kernel) (by decide) rfl (kk u hI2)
set_option maxHeartbeats 4000000 in
set_option maxRecDepth 100000 in
theorem lw_case14 {X : gx_X} {p : Program} {e : Env} {s : State} {m : MethodId} {below : List Frame} {meth : Method} {c : Code} {b L : Nat} {xs : Nat → Int32} {Inv : gx_M → Prop} {M : gx_M} {i : Nat} (C : lw_C X p s m meth c b L xs) (hp : lw_pair X Inv 45 98 1) (hI : Inv M) (hi : i + 5 ≤ L) (kk : ∀ M1, Inv M1 → lw_T X p e s m below meth c b 567 [.ref 58, .ref 0, .ref 34, .int (nI i)] [] M1) : lw_T X p e s m below meth c b 498 [.ref 58, .ref 0, .ref 34, .int (nI i)] [] M := by
  have hL := C.2.2.2
  have hin1 : vp_in (nI i + 1) L := by rw [show nI i + 1 = nI (i + 1) from nI_add i 1]; exact vp_in_nI (by omega) (by omega)
  have hc := hp M [xs (nI i + 1).toNatClampNeg] rfl hI
  refine lt_aload C (show decode code 498 = .ok (.aload_n 1, 1) by decide +kernel) rfl ?_
  refine lt_aload C (show decode code 499 = .ok (.aload_n 0, 1) by decide +kernel) rfl ?_
  refine lt_iload C (show decode code 500 = .ok (.iload_n 3, 1) by decide +kernel) rfl ?_
  refine lt_iconst (v := 1) C (show decode code 501 = .ok (.iconst 1, 1) by decide +kernel) (by decide) ?_
  refine lt_iadd C (show decode code 502 = .ok (.iadd, 1) by decide +kernel) ?_
  refine lt_sld C (show decode code 503 = .ok (.iaload, 1) by decide +kernel) hin1 ?_
  refine lt_call (ν := 45) (p0 := 0) (as := [.int (xs (nI i + 1).toNatClampNeg)]) (st := []) C (show decode code 504 = .ok (.invokevirtual 74, 3) by decide +kernel) (by decide) rfl (by decide) (Nat.le_of_ble_eq_true rfl) (by intro v hv; simp only [List.mem_cons, List.not_mem_nil, or_false] at hv; rcases hv with rfl | rfl <;> rfl) (by intro v hv; cases hv) (Nat.le_of_ble_eq_true rfl) (show Cond.methodLink R_law 74 (gx_y 45) ∈ gx_TBL from gx_in2 144 rfl rfl) (show Cond.initialized (gx_y 45).cls ∈ gx_TBL from gx_in1 1 rfl rfl) (show Cond.instanceMethod (gx_y 45) ∈ gx_TBL from gx_in2 145 rfl rfl) (show Cond.selects (gx_y 45).cls (gx_y 45) (gx_y 45) ∈ gx_TBL from gx_in2 146 rfl rfl) (show (gx_y 45).cls ≠ "java/lang/invoke/MethodHandle" ∧ (gx_y 45).cls ≠ "java/lang/invoke/VarHandle" ∧ (parseMethodDescriptor (gx_y 45).desc).map (fun d => d.parameters.length) = some 1 by decide +kernel) (by decide +kernel) hc (fun v u hv => ?_)
  obtain ⟨z, rfl, hc2⟩ := hv
  refine lt_aload C (show decode code 507 = .ok (.aload_n 2, 1) by decide +kernel) rfl ?_
  refine lt_aload C (show decode code 508 = .ok (.aload_n 0, 1) by decide +kernel) rfl ?_
  refine lt_iload C (show decode code 509 = .ok (.iload_n 3, 1) by decide +kernel) rfl ?_
  refine lt_iconst (v := 1) C (show decode code 510 = .ok (.iconst 1, 1) by decide +kernel) (by decide) ?_
  refine lt_iadd C (show decode code 511 = .ok (.iadd, 1) by decide +kernel) ?_
  refine lt_sld C (show decode code 512 = .ok (.iaload, 1) by decide +kernel) hin1 ?_
  refine lt_call (ν := 98) (p0 := 34) (as := [.int (xs (nI i + 1).toNatClampNeg)]) (st := [.int z]) C (show decode code 513 = .ok (.invokevirtual 77, 3) by decide +kernel) (by decide) rfl (by decide) (Nat.le_of_ble_eq_true rfl) (by intro v hv; simp only [List.mem_cons, List.not_mem_nil, or_false] at hv; rcases hv with rfl | rfl <;> rfl) (by intro v hv; rcases List.mem_singleton.mp hv with rfl; rfl) (Nat.le_of_ble_eq_true rfl) (show Cond.methodLink R_law 77 (gx_y 98) ∈ gx_TBL from gx_in3 207 rfl rfl) (show Cond.initialized (gx_y 98).cls ∈ gx_TBL from gx_in1 5 rfl rfl) (show Cond.instanceMethod (gx_y 98) ∈ gx_TBL from gx_in3 208 rfl rfl) (show Cond.selects (gx_y 98).cls (gx_y 98) (gx_y 98) ∈ gx_TBL from gx_in3 209 rfl rfl) (show (gx_y 98).cls ≠ "java/lang/invoke/MethodHandle" ∧ (gx_y 98).cls ≠ "java/lang/invoke/VarHandle" ∧ (parseMethodDescriptor (gx_y 98).desc).map (fun d => d.parameters.length) = some 1 by decide +kernel) (by decide +kernel) hc2 (fun v u hv => ?_)
  obtain ⟨rfl, hI2⟩ := hv
  exact lt_eq C 567 (show decode code 516 = .ok (.if_icmp .eq 51, 3) by decide +kernel) (by decide) rfl (kk u hI2)
set_option maxHeartbeats 4000000 in
set_option maxRecDepth 100000 in
theorem lw_case15 {X : gx_X} {p : Program} {e : Env} {s : State} {m : MethodId} {below : List Frame} {meth : Method} {c : Code} {b L : Nat} {xs : Nat → Int32} {Inv : gx_M → Prop} {M : gx_M} {i : Nat} (C : lw_C X p s m meth c b L xs) (hp : lw_pair X Inv 46 99 0) (hI : Inv M) (hi : i + 5 ≤ L) (kk : ∀ M1, Inv M1 → lw_T X p e s m below meth c b 567 [.ref 58, .ref 0, .ref 34, .int (nI i)] [] M1) : lw_T X p e s m below meth c b 521 [.ref 58, .ref 0, .ref 34, .int (nI i)] [] M := by
  have hL := C.2.2.2
  have hc := hp M [] rfl hI
  refine lt_aload C (show decode code 521 = .ok (.aload_n 1, 1) by decide +kernel) rfl ?_
  refine lt_call (ν := 46) (p0 := 0) (as := []) (st := []) C (show decode code 522 = .ok (.invokevirtual 78, 3) by decide +kernel) (by decide) rfl (by decide) (Nat.le_of_ble_eq_true rfl) (by intro v hv; simp only [List.mem_cons, List.not_mem_nil, or_false] at hv; rcases hv with rfl <;> rfl) (by intro v hv; cases hv) (Nat.le_of_ble_eq_true rfl) (show Cond.methodLink R_law 78 (gx_y 46) ∈ gx_TBL from gx_in2 152 rfl rfl) (show Cond.initialized (gx_y 46).cls ∈ gx_TBL from gx_in1 1 rfl rfl) (show Cond.instanceMethod (gx_y 46) ∈ gx_TBL from gx_in2 153 rfl rfl) (show Cond.selects (gx_y 46).cls (gx_y 46) (gx_y 46) ∈ gx_TBL from gx_in2 154 rfl rfl) (show (gx_y 46).cls ≠ "java/lang/invoke/MethodHandle" ∧ (gx_y 46).cls ≠ "java/lang/invoke/VarHandle" ∧ (parseMethodDescriptor (gx_y 46).desc).map (fun d => d.parameters.length) = some 0 by decide +kernel) (by decide +kernel) hc (fun v u hv => ?_)
  obtain ⟨z, rfl, hc2⟩ := hv
  refine lt_aload C (show decode code 525 = .ok (.aload_n 2, 1) by decide +kernel) rfl ?_
  refine lt_call (ν := 99) (p0 := 34) (as := []) (st := [.int z]) C (show decode code 526 = .ok (.invokevirtual 81, 3) by decide +kernel) (by decide) rfl (by decide) (Nat.le_of_ble_eq_true rfl) (by intro v hv; simp only [List.mem_cons, List.not_mem_nil, or_false] at hv; rcases hv with rfl <;> rfl) (by intro v hv; rcases List.mem_singleton.mp hv with rfl; rfl) (Nat.le_of_ble_eq_true rfl) (show Cond.methodLink R_law 81 (gx_y 99) ∈ gx_TBL from gx_in3 211 rfl rfl) (show Cond.initialized (gx_y 99).cls ∈ gx_TBL from gx_in1 5 rfl rfl) (show Cond.instanceMethod (gx_y 99) ∈ gx_TBL from gx_in3 212 rfl rfl) (show Cond.selects (gx_y 99).cls (gx_y 99) (gx_y 99) ∈ gx_TBL from gx_in3 213 rfl rfl) (show (gx_y 99).cls ≠ "java/lang/invoke/MethodHandle" ∧ (gx_y 99).cls ≠ "java/lang/invoke/VarHandle" ∧ (parseMethodDescriptor (gx_y 99).desc).map (fun d => d.parameters.length) = some 0 by decide +kernel) (by decide +kernel) hc2 (fun v u hv => ?_)
  obtain ⟨rfl, hI2⟩ := hv
  exact lt_eq C 567 (show decode code 529 = .ok (.if_icmp .eq 38, 3) by decide +kernel) (by decide) rfl (kk u hI2)
set_option maxHeartbeats 4000000 in
set_option maxRecDepth 100000 in
theorem lw_case16 {X : gx_X} {p : Program} {e : Env} {s : State} {m : MethodId} {below : List Frame} {meth : Method} {c : Code} {b L : Nat} {xs : Nat → Int32} {Inv : gx_M → Prop} {M : gx_M} {i : Nat} (C : lw_C X p s m meth c b L xs) (hp : lw_pair X Inv 47 100 2) (hI : Inv M) (hi : i + 5 ≤ L) (kk : ∀ M1, Inv M1 → lw_T X p e s m below meth c b 567 [.ref 58, .ref 0, .ref 34, .int (nI i)] [] M1) : lw_T X p e s m below meth c b 534 [.ref 58, .ref 0, .ref 34, .int (nI i)] [] M := by
  have hL := C.2.2.2
  have hin1 : vp_in (nI i + 1) L := by rw [show nI i + 1 = nI (i + 1) from nI_add i 1]; exact vp_in_nI (by omega) (by omega)
  have hin2 : vp_in (nI i + 2) L := by rw [show nI i + 2 = nI (i + 2) from nI_add i 2]; exact vp_in_nI (by omega) (by omega)
  have hc := hp M [xs (nI i + 1).toNatClampNeg, xs (nI i + 2).toNatClampNeg] rfl hI
  refine lt_aload C (show decode code 534 = .ok (.aload_n 1, 1) by decide +kernel) rfl ?_
  refine lt_aload C (show decode code 535 = .ok (.aload_n 0, 1) by decide +kernel) rfl ?_
  refine lt_iload C (show decode code 536 = .ok (.iload_n 3, 1) by decide +kernel) rfl ?_
  refine lt_iconst (v := 1) C (show decode code 537 = .ok (.iconst 1, 1) by decide +kernel) (by decide) ?_
  refine lt_iadd C (show decode code 538 = .ok (.iadd, 1) by decide +kernel) ?_
  refine lt_sld C (show decode code 539 = .ok (.iaload, 1) by decide +kernel) hin1 ?_
  refine lt_aload C (show decode code 540 = .ok (.aload_n 0, 1) by decide +kernel) rfl ?_
  refine lt_iload C (show decode code 541 = .ok (.iload_n 3, 1) by decide +kernel) rfl ?_
  refine lt_iconst (v := 2) C (show decode code 542 = .ok (.iconst 2, 1) by decide +kernel) (by decide) ?_
  refine lt_iadd C (show decode code 543 = .ok (.iadd, 1) by decide +kernel) ?_
  refine lt_sld C (show decode code 544 = .ok (.iaload, 1) by decide +kernel) hin2 ?_
  refine lt_call (ν := 47) (p0 := 0) (as := [.int (xs (nI i + 1).toNatClampNeg), .int (xs (nI i + 2).toNatClampNeg)]) (st := []) C (show decode code 545 = .ok (.invokevirtual 82, 3) by decide +kernel) (by decide) rfl (by decide) (Nat.le_of_ble_eq_true rfl) (by intro v hv; simp only [List.mem_cons, List.not_mem_nil, or_false] at hv; rcases hv with rfl | rfl | rfl <;> rfl) (by intro v hv; cases hv) (Nat.le_of_ble_eq_true rfl) (show Cond.methodLink R_law 82 (gx_y 47) ∈ gx_TBL from gx_in2 197 rfl rfl) (show Cond.initialized (gx_y 47).cls ∈ gx_TBL from gx_in1 1 rfl rfl) (show Cond.instanceMethod (gx_y 47) ∈ gx_TBL from gx_in2 198 rfl rfl) (show Cond.selects (gx_y 47).cls (gx_y 47) (gx_y 47) ∈ gx_TBL from gx_in2 199 rfl rfl) (show (gx_y 47).cls ≠ "java/lang/invoke/MethodHandle" ∧ (gx_y 47).cls ≠ "java/lang/invoke/VarHandle" ∧ (parseMethodDescriptor (gx_y 47).desc).map (fun d => d.parameters.length) = some 2 by decide +kernel) (by decide +kernel) hc (fun v u hv => ?_)
  obtain ⟨z, rfl, hc2⟩ := hv
  refine lt_aload C (show decode code 548 = .ok (.aload_n 2, 1) by decide +kernel) rfl ?_
  refine lt_aload C (show decode code 549 = .ok (.aload_n 0, 1) by decide +kernel) rfl ?_
  refine lt_iload C (show decode code 550 = .ok (.iload_n 3, 1) by decide +kernel) rfl ?_
  refine lt_iconst (v := 1) C (show decode code 551 = .ok (.iconst 1, 1) by decide +kernel) (by decide) ?_
  refine lt_iadd C (show decode code 552 = .ok (.iadd, 1) by decide +kernel) ?_
  refine lt_sld C (show decode code 553 = .ok (.iaload, 1) by decide +kernel) hin1 ?_
  refine lt_aload C (show decode code 554 = .ok (.aload_n 0, 1) by decide +kernel) rfl ?_
  refine lt_iload C (show decode code 555 = .ok (.iload_n 3, 1) by decide +kernel) rfl ?_
  refine lt_iconst (v := 2) C (show decode code 556 = .ok (.iconst 2, 1) by decide +kernel) (by decide) ?_
  refine lt_iadd C (show decode code 557 = .ok (.iadd, 1) by decide +kernel) ?_
  refine lt_sld C (show decode code 558 = .ok (.iaload, 1) by decide +kernel) hin2 ?_
  refine lt_call (ν := 100) (p0 := 34) (as := [.int (xs (nI i + 1).toNatClampNeg), .int (xs (nI i + 2).toNatClampNeg)]) (st := [.int z]) C (show decode code 559 = .ok (.invokevirtual 85, 3) by decide +kernel) (by decide) rfl (by decide) (Nat.le_of_ble_eq_true rfl) (by intro v hv; simp only [List.mem_cons, List.not_mem_nil, or_false] at hv; rcases hv with rfl | rfl | rfl <;> rfl) (by intro v hv; rcases List.mem_singleton.mp hv with rfl; rfl) (Nat.le_of_ble_eq_true rfl) (show Cond.methodLink R_law 85 (gx_y 100) ∈ gx_TBL from gx_in3 215 rfl rfl) (show Cond.initialized (gx_y 100).cls ∈ gx_TBL from gx_in1 5 rfl rfl) (show Cond.instanceMethod (gx_y 100) ∈ gx_TBL from gx_in3 216 rfl rfl) (show Cond.selects (gx_y 100).cls (gx_y 100) (gx_y 100) ∈ gx_TBL from gx_in3 217 rfl rfl) (show (gx_y 100).cls ≠ "java/lang/invoke/MethodHandle" ∧ (gx_y 100).cls ≠ "java/lang/invoke/VarHandle" ∧ (parseMethodDescriptor (gx_y 100).desc).map (fun d => d.parameters.length) = some 2 by decide +kernel) (by decide +kernel) hc2 (fun v u hv => ?_)
  obtain ⟨rfl, hI2⟩ := hv
  exact lt_eq C 567 (show decode code 562 = .ok (.if_icmp .eq 5, 3) by decide +kernel) (by decide) rfl (kk u hI2)
set_option maxHeartbeats 4000000 in
set_option maxRecDepth 100000 in
theorem lw_loop {X : gx_X} {p : Program} {e : Env} {s : State} {m : MethodId} {below : List Frame} {meth : Method} {c : Code} {b L : Nat} {xs : Nat → Int32} {Inv : gx_M → Prop} (C : lw_C X p s m meth c b L xs) (hp : ∀ q ∈ lw_ps, lw_pair X Inv q.1 q.2.1 q.2.2) :
    ∀ (n i : Nat) (M : gx_M), i < 2600 → L < i + 5 * n → Inv M → lw_T X p e s m below meth c b 18 [.ref 58, .ref 0, .ref 34, .int (nI i)] [] M := by
  have hL := C.2.2.2
  have h5 : ∀ i : Nat, i < 2600 → (nI L - 5 < nI i ↔ L < i + 5) := by
    intro i hi
    have e1 : (nI L - 5).toInt = (L : Int) - 5 := pk_sub_toInt (a := L) (b := 5) (by omega) (by omega)
    have e2 : (nI i).toInt = (i : Int) := nI_toInt (by omega)
    rw [Int32.lt_iff_toInt_lt, e1, e2]
    omega
  have fin : ∀ (i : Nat) (M : gx_M), lw_T X p e s m below meth c b 573 [.ref 58, .ref 0, .ref 34, .int (nI i)] [] M := by
    intro i M
    refine lt_iconst (v := 1) C (show decode code 573 = .ok (.iconst 1, 1) by decide +kernel) (by decide) ?_
    intro H locs ls hP hD hS hl
    obtain ⟨⟨hx, hb, hr, hml, hown, hts, hX, hbl, hlocks, hgv⟩, hK, e58, hL⟩ := C
    refine va_forget (fun q hq => hS.2.2 q hq) ?_
    refine W.widen (k := 600000) (n := 7302250) (by decide) (by decide) ?_
    exact lw_ret hx hb hr hlocks (show decode code 574 = .ok (.ireturn, 1) by decide +kernel)
  intro n
  induction n with
  | zero =>
    intro i M hi h hI
    refine lt_iload C (show decode code 18 = .ok (.iload_n 3, 1) by decide +kernel) rfl ?_
    refine lt_aload C (show decode code 19 = .ok (.aload_n 0, 1) by decide +kernel) rfl ?_
    refine lt_slen C (show decode code 20 = .ok (.arraylength, 1) by decide +kernel) ?_
    refine lt_iconst (v := 5) C (show decode code 21 = .ok (.iconst 5, 1) by decide +kernel) (by decide) ?_
    refine lt_isub C (show decode code 22 = .ok (.isub, 1) by decide +kernel) ?_
    exact lt_gt C 573 (show decode code 23 = .ok (.if_icmp .gt 550, 3) by decide +kernel) (by decide) (fun _ => fin i M) (fun q => absurd ((h5 i hi).mpr (by omega)) q)
  | succ n ih =>
    intro i M hi h hI
    refine lt_iload C (show decode code 18 = .ok (.iload_n 3, 1) by decide +kernel) rfl ?_
    refine lt_aload C (show decode code 19 = .ok (.aload_n 0, 1) by decide +kernel) rfl ?_
    refine lt_slen C (show decode code 20 = .ok (.arraylength, 1) by decide +kernel) ?_
    refine lt_iconst (v := 5) C (show decode code 21 = .ok (.iconst 5, 1) by decide +kernel) (by decide) ?_
    refine lt_isub C (show decode code 22 = .ok (.isub, 1) by decide +kernel) ?_
    refine lt_gt C 573 (show decode code 23 = .ok (.if_icmp .gt 550, 3) by decide +kernel) (by decide) (fun _ => fin i M) (fun q => ?_)
    have hi5 : i + 5 ≤ L := Nat.not_lt.mp (fun z => q ((h5 i hi).mpr z))
    have kk : ∀ M1, Inv M1 → lw_T X p e s m below meth c b 567 [.ref 58, .ref 0, .ref 34, .int (nI i)] [] M1 := by
      intro M1 hI1
      refine lt_iinc (v := nI (i + 5)) C (show decode code 567 = .ok (.iinc 3 5, 3) by decide +kernel) rfl (by rw [show Int32.ofInt 5 = nI 5 by decide]; exact nI_add i 5) (by decide) rfl (by intro v hv; simp only [List.mem_cons, List.not_mem_nil, or_false] at hv; rcases hv with rfl | rfl | rfl | rfl <;> rfl) ?_
      refine lt_goto C 18 (show decode code 570 = .ok (.goto (-552), 3) by decide +kernel) (by decide) ?_
      exact ih (i + 5) M1 (by omega) (by omega) hI1
    refine lt_aload C (show decode code 26 = .ok (.aload_n 0, 1) by decide +kernel) rfl ?_
    refine lt_iload C (show decode code 27 = .ok (.iload_n 3, 1) by decide +kernel) rfl ?_
    refine lt_sld C (show decode code 28 = .ok (.iaload, 1) by decide +kernel) (vp_in_nI (by omega) (by omega)) ?_
    refine lt_bipush (v := 31) C (show decode code 29 = .ok (.bipush 31, 2) by decide +kernel) (by decide) ?_
    refine lt_iand C (show decode code 31 = .ok (.iand, 1) by decide +kernel) ?_
    obtain ⟨j, hj, ej⟩ := pk_andE (xs (nI i).toNatClampNeg) (m := 31) 5 (by decide)
    rw [ej]
    have et : (nI j).toInt = (j : Int) := nI_toInt (by omega)
    by_cases h17 : j < 17
    · have ho : ∀ (k : Nat) (off : Int), j = k → (#[84, 97, 130, 163, 216, 259, 282, 295, 308, 331, 364, 397, 420, 443, 466, 489, 502] : Array Int)[k]? = some off → (#[84, 97, 130, 163, 216, 259, 282, 295, 308, 331, 364, 397, 420, 443, 466, 489, 502] : Array Int)[((nI j).toInt - 0).toNat]? = some off := by
        intro k off hjk hk
        rw [et, ← hk]
        congr 1
      rcases (show j = 0 ∨ j = 1 ∨ j = 2 ∨ j = 3 ∨ j = 4 ∨ j = 5 ∨ j = 6 ∨ j = 7 ∨ j = 8 ∨ j = 9 ∨ j = 10 ∨ j = 11 ∨ j = 12 ∨ j = 13 ∨ j = 14 ∨ j = 15 ∨ j = 16 by omega) with hj0 | hj0 | hj0 | hj0 | hj0 | hj0 | hj0 | hj0 | hj0 | hj0 | hj0 | hj0 | hj0 | hj0 | hj0 | hj0 | hj0
      · exact lt_tabIn C 116 (show decode code 32 = .ok (.tableswitch 535 0 16 #[84, 97, 130, 163, 216, 259, 282, 295, 308, 331, 364, 397, 420, 443, 466, 489, 502], 84) by decide +kernel) (by rw [et]; omega) (by rw [et]; omega) (ho 0 84 hj0 rfl) (by decide) (lw_case0 C (hp (31, 82, 0) (by decide)) hI hi5 kk)
      · exact lt_tabIn C 129 (show decode code 32 = .ok (.tableswitch 535 0 16 #[84, 97, 130, 163, 216, 259, 282, 295, 308, 331, 364, 397, 420, 443, 466, 489, 502], 84) by decide +kernel) (by rw [et]; omega) (by rw [et]; omega) (ho 1 97 hj0 rfl) (by decide) (lw_case1 C (hp (32, 83, 2) (by decide)) hI hi5 kk)
      · exact lt_tabIn C 162 (show decode code 32 = .ok (.tableswitch 535 0 16 #[84, 97, 130, 163, 216, 259, 282, 295, 308, 331, 364, 397, 420, 443, 466, 489, 502], 84) by decide +kernel) (by rw [et]; omega) (by rw [et]; omega) (ho 2 130 hj0 rfl) (by decide) (lw_case2 C (hp (33, 84, 2) (by decide)) hI hi5 kk)
      · exact lt_tabIn C 195 (show decode code 32 = .ok (.tableswitch 535 0 16 #[84, 97, 130, 163, 216, 259, 282, 295, 308, 331, 364, 397, 420, 443, 466, 489, 502], 84) by decide +kernel) (by rw [et]; omega) (by rw [et]; omega) (ho 3 163 hj0 rfl) (by decide) (lw_case3 C (hp (34, 85, 4) (by decide)) hI hi5 kk)
      · exact lt_tabIn C 248 (show decode code 32 = .ok (.tableswitch 535 0 16 #[84, 97, 130, 163, 216, 259, 282, 295, 308, 331, 364, 397, 420, 443, 466, 489, 502], 84) by decide +kernel) (by rw [et]; omega) (by rw [et]; omega) (ho 4 216 hj0 rfl) (by decide) (lw_case4 C (hp (35, 86, 3) (by decide)) hI hi5 kk)
      · exact lt_tabIn C 291 (show decode code 32 = .ok (.tableswitch 535 0 16 #[84, 97, 130, 163, 216, 259, 282, 295, 308, 331, 364, 397, 420, 443, 466, 489, 502], 84) by decide +kernel) (by rw [et]; omega) (by rw [et]; omega) (ho 5 259 hj0 rfl) (by decide) (lw_case5 C (hp (36, 87, 1) (by decide)) hI hi5 kk)
      · exact lt_tabIn C 314 (show decode code 32 = .ok (.tableswitch 535 0 16 #[84, 97, 130, 163, 216, 259, 282, 295, 308, 331, 364, 397, 420, 443, 466, 489, 502], 84) by decide +kernel) (by rw [et]; omega) (by rw [et]; omega) (ho 6 282 hj0 rfl) (by decide) (lw_case6 C (hp (37, 88, 0) (by decide)) hI hi5 kk)
      · exact lt_tabIn C 327 (show decode code 32 = .ok (.tableswitch 535 0 16 #[84, 97, 130, 163, 216, 259, 282, 295, 308, 331, 364, 397, 420, 443, 466, 489, 502], 84) by decide +kernel) (by rw [et]; omega) (by rw [et]; omega) (ho 7 295 hj0 rfl) (by decide) (lw_case7 C (hp (38, 89, 0) (by decide)) hI hi5 kk)
      · exact lt_tabIn C 340 (show decode code 32 = .ok (.tableswitch 535 0 16 #[84, 97, 130, 163, 216, 259, 282, 295, 308, 331, 364, 397, 420, 443, 466, 489, 502], 84) by decide +kernel) (by rw [et]; omega) (by rw [et]; omega) (ho 8 308 hj0 rfl) (by decide) (lw_case8 C (hp (39, 91, 1) (by decide)) hI hi5 kk)
      · exact lt_tabIn C 363 (show decode code 32 = .ok (.tableswitch 535 0 16 #[84, 97, 130, 163, 216, 259, 282, 295, 308, 331, 364, 397, 420, 443, 466, 489, 502], 84) by decide +kernel) (by rw [et]; omega) (by rw [et]; omega) (ho 9 331 hj0 rfl) (by decide) (lw_case9 C (hp (40, 92, 2) (by decide)) hI hi5 kk)
      · exact lt_tabIn C 396 (show decode code 32 = .ok (.tableswitch 535 0 16 #[84, 97, 130, 163, 216, 259, 282, 295, 308, 331, 364, 397, 420, 443, 466, 489, 502], 84) by decide +kernel) (by rw [et]; omega) (by rw [et]; omega) (ho 10 364 hj0 rfl) (by decide) (lw_case10 C (hp (41, 93, 2) (by decide)) hI hi5 kk)
      · exact lt_tabIn C 429 (show decode code 32 = .ok (.tableswitch 535 0 16 #[84, 97, 130, 163, 216, 259, 282, 295, 308, 331, 364, 397, 420, 443, 466, 489, 502], 84) by decide +kernel) (by rw [et]; omega) (by rw [et]; omega) (ho 11 397 hj0 rfl) (by decide) (lw_case11 C (hp (42, 95, 1) (by decide)) hI hi5 kk)
      · exact lt_tabIn C 452 (show decode code 32 = .ok (.tableswitch 535 0 16 #[84, 97, 130, 163, 216, 259, 282, 295, 308, 331, 364, 397, 420, 443, 466, 489, 502], 84) by decide +kernel) (by rw [et]; omega) (by rw [et]; omega) (ho 12 420 hj0 rfl) (by decide) (lw_case12 C (hp (43, 96, 1) (by decide)) hI hi5 kk)
      · exact lt_tabIn C 475 (show decode code 32 = .ok (.tableswitch 535 0 16 #[84, 97, 130, 163, 216, 259, 282, 295, 308, 331, 364, 397, 420, 443, 466, 489, 502], 84) by decide +kernel) (by rw [et]; omega) (by rw [et]; omega) (ho 13 443 hj0 rfl) (by decide) (lw_case13 C (hp (44, 97, 1) (by decide)) hI hi5 kk)
      · exact lt_tabIn C 498 (show decode code 32 = .ok (.tableswitch 535 0 16 #[84, 97, 130, 163, 216, 259, 282, 295, 308, 331, 364, 397, 420, 443, 466, 489, 502], 84) by decide +kernel) (by rw [et]; omega) (by rw [et]; omega) (ho 14 466 hj0 rfl) (by decide) (lw_case14 C (hp (45, 98, 1) (by decide)) hI hi5 kk)
      · exact lt_tabIn C 521 (show decode code 32 = .ok (.tableswitch 535 0 16 #[84, 97, 130, 163, 216, 259, 282, 295, 308, 331, 364, 397, 420, 443, 466, 489, 502], 84) by decide +kernel) (by rw [et]; omega) (by rw [et]; omega) (ho 15 489 hj0 rfl) (by decide) (lw_case15 C (hp (46, 99, 0) (by decide)) hI hi5 kk)
      · exact lt_tabIn C 534 (show decode code 32 = .ok (.tableswitch 535 0 16 #[84, 97, 130, 163, 216, 259, 282, 295, 308, 331, 364, 397, 420, 443, 466, 489, 502], 84) by decide +kernel) (by rw [et]; omega) (by rw [et]; omega) (ho 16 502 hj0 rfl) (by decide) (lw_case16 C (hp (47, 100, 2) (by decide)) hI hi5 kk)
    · exact lt_tabOut C 567 (show decode code 32 = .ok (.tableswitch 535 0 16 #[84, 97, 130, 163, 216, 259, 282, 295, 308, 331, 364, 397, 420, 443, 466, 489, 502], 84) by decide +kernel) (Or.inr (by rw [et]; omega)) (by decide) (kk M hI)
end
section
/-! The law from its entry, whatever holds between the calls: printed by wip/genctor.py. -/
theorem gx_row {ad : Nat → Nat} : (fun i : Nat => (([30, 31] : List Nat)[i]?).map ad) = fun i : Nat => ([ad 30, ad 31] : List Nat)[i]? := by
  funext i
  match i with
  | 0 => rfl
  | 1 => rfl
  | k + 2 => rfl
def gx_mapi {α β : Type} (f : Nat → α → β) : Nat → List α → List β
  | _, [] => []
  | n, a :: l => f n a :: gx_mapi f (n + 1) l
theorem gx_mapi_at {α β : Type} (f : Nat → α → β) : ∀ (l : List α) (n i : Nat), (gx_mapi f n l)[i]? = (l[i]?).map (f (n + i))
  | [], n, i => by simp [gx_mapi]
  | a :: l, n, 0 => by simp [gx_mapi]
  | a :: l, n, i + 1 => by
    show (gx_mapi f (n + 1) l)[i]? = _
    rw [gx_mapi_at f l (n + 1) i, List.getElem?_cons_succ, show n + 1 + i = n + (i + 1) by omega]
theorem gx_mapi_eq {α β : Type} (f : Nat → α → β) (l : List α) : l.mapIdx f = gx_mapi f 0 l := by
  apply List.ext_getElem?
  intro i
  rw [gx_mapi_at, List.getElem?_mapIdx, Nat.zero_add]
def gx_e2 (ad : Nat → Nat) (cA : FieldType → ClassId) (x : gx_L) : va_E := match x with
  | .inl (ty, n) => .inl (cA ty, n, .inl (fun _ => 0))
  | .inr (.inl (ci, sl)) => .inr (ci, sl.map (fun o => match o with
    | none => .int 0
    | some q => .ref (ad q)))
  | .inr (.inr qs) => .inl (cA (.array .int), qs.length, .inr (.inr (.inr (.inr (fun i => (qs[i]?).map ad)))))
theorem gx_e2_eq (ad : Nat → Nat) (cA : FieldType → ClassId) (x : gx_L) : gx_e ad cA (fun _ => 0) x = gx_e2 ad cA x := by
  match x with
  | .inl (ty, n) => rfl
  | .inr (.inl (ci, sl)) =>
    show Sum.inr (ci, sl.mapIdx (gx_sv ad (fun _ => 0))) = Sum.inr (ci, sl.map _)
    have e : sl.mapIdx (gx_sv ad (fun _ => 0)) = sl.map (fun o => match o with
      | none => .int 0
      | some q => .ref (ad q)) := by
      apply List.ext_getElem?
      intro i
      rw [List.getElem?_mapIdx, List.getElem?_map]
      rfl
    rw [e]
  | .inr (.inr qs) => rfl
theorem gx_ws_eq (ad : Nat → Nat) (cA : FieldType → ClassId) : gx_ws ad cA (fun _ _ => 0) = gx_mapi (fun p x => (ad p, gx_e2 ad cA x)) 0 gx_Ly := by
  unfold gx_ws
  rw [gx_mapi_eq]
  congr 1
  funext p x
  rw [gx_e2_eq]
set_option maxHeartbeats 8000000 in
set_option maxRecDepth 100000 in
theorem gx_ws_list (ad : Nat → Nat) (cA : FieldType → ClassId) : gx_ws ad cA (fun _ _ => 0) = [(ad 0, .inr (3, [.ref (ad 1), .ref (ad 2), .ref (ad 3), .ref (ad 28), .ref (ad 29), .ref (ad 32), .ref (ad 33), .int 0, .int 0, .int 0, .int 0, .int 0])), (ad 1, .inr (0, [.ref (ad 4), .ref (ad 5), .ref (ad 6), .ref (ad 7), .ref (ad 8), .ref (ad 9), .ref (ad 10), .int 0, .int 0, .int 0])), (ad 2, .inr (1, [.ref (ad 11), .ref (ad 12), .ref (ad 13), .ref (ad 14), .ref (ad 15), .ref (ad 16), .ref (ad 17), .ref (ad 18), .ref (ad 19), .ref (ad 20)])), (ad 3, .inr (2, [.ref (ad 21), .ref (ad 22), .int 0, .ref (ad 23), .ref (ad 24), .ref (ad 25), .ref (ad 26), .ref (ad 27)])), (ad 4, .inl (cA .int, 10, .inl (fun _ => 0))), (ad 5, .inl (cA .int, 10, .inl (fun _ => 0))), (ad 6, .inl (cA .int, 40, .inl (fun _ => 0))), (ad 7, .inl (cA .int, 40, .inl (fun _ => 0))), (ad 8, .inl (cA .int, 40, .inl (fun _ => 0))), (ad 9, .inl (cA .int, 40, .inl (fun _ => 0))), (ad 10, .inl (cA .boolean, 40, .inl (fun _ => 0))), (ad 11, .inl (cA .int, 61, .inl (fun _ => 0))), (ad 12, .inl (cA .int, 61, .inl (fun _ => 0))), (ad 13, .inl (cA .int, 61, .inl (fun _ => 0))), (ad 14, .inl (cA .int, 61, .inl (fun _ => 0))), (ad 15, .inl (cA .int, 61, .inl (fun _ => 0))), (ad 16, .inl (cA .boolean, 61, .inl (fun _ => 0))), (ad 17, .inl (cA .int, 924, .inl (fun _ => 0))), (ad 18, .inl (cA .int, 22, .inl (fun _ => 0))), (ad 19, .inl (cA .int, 22, .inl (fun _ => 0))), (ad 20, .inl (cA .int, 22, .inl (fun _ => 0))), (ad 21, .inl (cA .int, 50, .inl (fun _ => 0))), (ad 22, .inl (cA .int, 50, .inl (fun _ => 0))), (ad 23, .inl (cA .int, 500, .inl (fun _ => 0))), (ad 24, .inl (cA .int, 40, .inl (fun _ => 0))), (ad 25, .inl (cA .int, 10, .inl (fun _ => 0))), (ad 26, .inl (cA .int, 10, .inl (fun _ => 0))), (ad 27, .inl (cA .int, 10, .inl (fun _ => 0))), (ad 28, .inl (cA .int, 61, .inl (fun _ => 0))), (ad 29, .inl (cA (.array .int), 2, .inr (.inr (.inr (.inr (fun i : Nat => (([30, 31] : List Nat)[i]?).map ad)))))) , (ad 30, .inl (cA .int, 61, .inl (fun _ => 0))), (ad 31, .inl (cA .int, 61, .inl (fun _ => 0))), (ad 32, .inl (cA .boolean, 2, .inl (fun _ => 0))), (ad 33, .inl (cA .int, 40, .inl (fun _ => 0))), (ad 34, .inr (4, [.int 0, .ref (ad 35), .ref (ad 36), .int 0, .ref (ad 37), .ref (ad 38), .ref (ad 39), .ref (ad 40), .ref (ad 41), .int 0, .ref (ad 42), .ref (ad 43), .ref (ad 44), .ref (ad 45), .ref (ad 46), .ref (ad 47), .int 0, .int 0, .ref (ad 48), .ref (ad 49), .ref (ad 50), .int 0, .ref (ad 51), .ref (ad 52), .ref (ad 53), .ref (ad 54), .ref (ad 55), .ref (ad 56), .ref (ad 57)])), (ad 35, .inl (cA .int, 10, .inl (fun _ => 0))), (ad 36, .inl (cA .int, 10, .inl (fun _ => 0))), (ad 37, .inl (cA .int, 40, .inl (fun _ => 0))), (ad 38, .inl (cA .int, 40, .inl (fun _ => 0))), (ad 39, .inl (cA .int, 40, .inl (fun _ => 0))), (ad 40, .inl (cA .int, 40, .inl (fun _ => 0))), (ad 41, .inl (cA .boolean, 40, .inl (fun _ => 0))), (ad 42, .inl (cA .int, 40, .inl (fun _ => 0))), (ad 43, .inl (cA .int, 40, .inl (fun _ => 0))), (ad 44, .inl (cA .int, 10, .inl (fun _ => 0))), (ad 45, .inl (cA .int, 576, .inl (fun _ => 0))), (ad 46, .inl (cA .int, 24, .inl (fun _ => 0))), (ad 47, .inl (cA .int, 24, .inl (fun _ => 0))), (ad 48, .inl (cA .int, 2, .inl (fun _ => 0))), (ad 49, .inl (cA .int, 80, .inl (fun _ => 0))), (ad 50, .inl (cA .boolean, 40, .inl (fun _ => 0))), (ad 51, .inl (cA .int, 80, .inl (fun _ => 0))), (ad 52, .inl (cA .int, 80, .inl (fun _ => 0))), (ad 53, .inl (cA .int, 800, .inl (fun _ => 0))), (ad 54, .inl (cA .int, 40, .inl (fun _ => 0))), (ad 55, .inl (cA .int, 10, .inl (fun _ => 0))), (ad 56, .inl (cA .int, 12, .inl (fun _ => 0))), (ad 57, .inl (cA .int, 10, .inl (fun _ => 0)))] := by
  rw [gx_ws_eq]
  rfl
theorem gx_K0 {s : State} {args : Array Value} (hts : ∀ w ∈ lw_tbl, w.before args s = true) (hover : va_AOA .int s) : ∃ (D : va_G) (cA : FieldType → ClassId), va_K D gx_cl (gx_tys cA) s := by
  obtain ⟨c0, i0, k0⟩ := u_known (C := gR0) (T := gT0) (N := 10) (n := 10) hts (fun w h => lw_inT w (gx_lay0 w h)) (hts (.instantiable gR0 10) (lw_inT _ (gx_in1 18 rfl rfl)))
  obtain ⟨c1, i1, k1⟩ := u_known (C := gR1) (T := gT1) (N := 10) (n := 10) hts (fun w h => lw_inT w (gx_lay1 w h)) (hts (.instantiable gR1 10) (lw_inT _ (gx_in1 70 rfl rfl)))
  obtain ⟨c2, i2, k2⟩ := u_known (C := gR2) (T := gT2) (N := 8) (n := 8) hts (fun w h => lw_inT w (gx_lay2 w h)) (hts (.instantiable gR2 8) (lw_inT _ (gx_in1 109 rfl rfl)))
  obtain ⟨c3, i3, k3⟩ := u_known (C := gR3) (T := gT3) (N := 12) (n := 12) hts (fun w h => lw_inT w (gx_lay3 w h)) (hts (.instantiable gR3 12) (lw_inT _ (gx_in1 10 rfl rfl)))
  obtain ⟨c4, i4, k4⟩ := u_known (C := gR4) (T := gT4) (N := 29) (n := 29) hts (fun w h => lw_inT w (gx_lay4 w h)) (hts (.instantiable gR4 29) (lw_inT _ (gx_in2 206 rfl rfl)))
  obtain ⟨aI, kI, cI, fI, gI, hI⟩ := Cond.arrayClass_spec (hts _ (lw_inT _ gx_aI))
  obtain ⟨aZ, kZ, cZ, fZ, gZ, hZ⟩ := Cond.arrayClass_spec (hts _ (lw_inT _ gx_aZ))
  obtain ⟨cmp, aA, kA, f0, gA, hA, fA⟩ := Cond.arrayOver_specA (show (Cond.arrayOver (.array .int)).holds #[] s none s [] = true from hover)
  refine ⟨(fun k => match k with
    | 0 => c0
    | 1 => c1
    | 2 => c2
    | 3 => c3
    | _ => c4, fun k => match k with
    | 0 => i0
    | 1 => i1
    | 2 => i2
    | 3 => i3
    | _ => i4), (fun t => match t with
    | .int => aI
    | .boolean => aZ
    | _ => aA), fun k q hq => ?_, fun k q hq => ?_⟩
  · match k, hq with
    | 0, hq => cases hq; exact k0
    | 1, hq => cases hq; exact k1
    | 2, hq => cases hq; exact k2
    | 3, hq => cases hq; exact k3
    | 4, hq => cases hq; exact k4
    | k + 5, hq => cases hq
  · match k, hq with
    | 0, hq => cases hq; exact ⟨fun n z => ⟨(fun k hk => by cases hk), kI, gI, cI, hI⟩, fI⟩
    | 1, hq => cases hq; exact ⟨fun n z => ⟨(fun k hk => by cases hk), kZ, gZ, cZ, hZ⟩, fZ⟩
    | 2, hq => cases hq; exact ⟨fun n z => ⟨(fun k hk => by cases hk), kA, gA, cmp, hA⟩, fA⟩
    | k + 3, hq => cases hq
theorem lw_i1 {q : Cond} (i : Nat) (h : tables_1_1[i]? = some q) : q ∈ lw_tbl := List.mem_append_right _ (List.mem_append_left _ (List.mem_of_getElem? h))
theorem lw_i2 {q : Cond} (i : Nat) (h : tables_1_2[i]? = some q) : q ∈ lw_tbl := List.mem_append_right _ (List.mem_append_right _ (List.mem_append_left _ (List.mem_of_getElem? h)))
theorem lw_i3 {q : Cond} (i : Nat) (h : tables_1_3[i]? = some q) : q ∈ lw_tbl := List.mem_append_right _ (List.mem_append_right _ (List.mem_append_right _ (List.mem_of_getElem? h)))
theorem gx_N4_0 {s : State} {args : Array Value} (hts : ∀ w ∈ lw_tbl, w.before args s = true) : gx_N4 s := ⟨va_Nw.of rfl (hts (.methodLinkNest gR3 11 gy_Graph "GreatestFlow") (lw_i1 19 rfl)), va_Nw.of rfl (hts (.methodLinkNest gR3 18 gy_Net "GreatestFlow") (lw_i1 71 rfl)), va_Nw.of rfl (hts (.methodLinkNest gR3 25 gy_Parts "GreatestFlow") (lw_i1 110 rfl)), (show (Cond.arrayOver (.array .int)).before #[] s = true from hts (.arrayOver (.array .int)) (lw_i1 143 rfl))⟩
set_option maxHeartbeats 8000000 in
set_option maxRecDepth 100000 in
theorem whole_of (Inv : gx_M → Prop) (h0 : Inv (fun _ _ => 0)) (hp : ∀ (X : gx_X), ∀ q ∈ lw_ps, lw_pair X Inv q.1 q.2.1 q.2.2) {p : Program} {e : Env} {s : State} {m : MethodId} {below : List Frame} {meth : Method} {c : Code} (l : Launch) {b L : Nat} {xs : Nat → Int32} (hL : L ≤ 2560) (C0 : lw_At p s m meth c b L xs) : W p l e room_1 s m #[Value.ref b] below meth c s.heap [] 0 0 (lw_Z below #[Value.ref b] s) (entryFrame m ([Value.ref b] : List Value).toArray 4) := by
  obtain ⟨hx, hb, hr, hml, hown, hts, hX, hbl, hlocks, hgv⟩ := id C0
  have hN4 := gx_N4_0 hts
  obtain ⟨D, cA, hK⟩ := gx_K0 hts hN4.2.2.2
  have hA : ∀ q : Nat, s.heap.size ≤ q → (fun q : Nat => s.heap.size ≤ q) q := fun _ h => h
  have hS : va_S (fun q : Nat => s.heap.size ≤ q) s.heap s.heap [] := va_S.rf
  have hP : va_P D gx_cl [] s.heap := fun k q h => by simp at h
  have hD : va_D (fun q : Nat => s.heap.size ≤ q) [] := ⟨fun i j p q h => by simp at h, fun k q h => by simp at h⟩
  have hl := lv_entry ([.ref b]) (n := 4) (Nat.le_of_ble_eq_true rfl)
  rw [lg_entry_eq]
  generalize (lg_sl ([.ref b]) ++ List.replicate (4 - (lg_sl ([.ref b])).length) Slot.unset).toArray = ls at hl ⊢
  have hl : lv_has ls 4 [(0, .ref b)] := hl
  refine va_new (ci := 3) (fs := [.null, .null, .null, .null, .null, .null, .null, .int 0, .int 0, .int 0, .int 0, .int 0]) (C := gR3) (T := gT3) (N := 12) hx hb hts (fun w h => lw_inT w (gx_lay3 w h)) gY3 gY3_ok hown (hts _ (lw_inT _ (show Cond.classLink R_law 7 gR3 ∈ gx_TBL from gx_in1 9 rfl rfl))) (hts _ (lw_inT _ (show Cond.instantiable gR3 12 ∈ gx_TBL from gx_in1 10 rfl rfl))) (hts _ (lw_inT _ (show Cond.initialized gR3 ∈ gx_TBL from gx_in1 1 rfl rfl))) hK hP hD hS hA rfl (fun j hj => by rcases (show j = 0 ∨ j = 1 ∨ j = 2 ∨ j = 3 ∨ j = 4 ∨ j = 5 ∨ j = 6 ∨ j = 7 ∨ j = 8 ∨ j = 9 ∨ j = 10 ∨ j = 11 by omega) with rfl | rfl | rfl | rfl | rfl | rfl | rfl | rfl | rfl | rfl | rfl | rfl <;> rfl) (Nat.le_of_ble_eq_true rfl) (Nat.le_of_ble_eq_true rfl) (show decode code 0 = .ok (.new 7, 3) by decide +kernel) (fun qX H hP hD hS => ?_)
  have hP : va_P D gx_cl [(qX, .inr (3, [.null, .null, .null, .null, .null, .null, .null, .int 0, .int 0, .int 0, .int 0, .int 0]))] H := hP
  have hD : va_D (fun q : Nat => s.heap.size ≤ q) [(qX, .inr (3, [.null, .null, .null, .null, .null, .null, .null, .int 0, .int 0, .int 0, .int 0, .int 0]))] := hD
  refine W.cs (cells' := 1) (slots' := 12) rfl rfl ?_
  refine lv_dup hx hb (show decode code 3 = .ok (.dup, 1) by decide +kernel) rfl ?_
  have hPc := hP.sub (ws' := [(qX, .inr (3, [.null, .null, .null, .null, .null, .null, .null, .int 0, .int 0, .int 0, .int 0, .int 0]))]) [0] rfl
  have hDc := hD.sub (ws' := [(qX, .inr (3, [.null, .null, .null, .null, .null, .null, .null, .int 0, .int 0, .int 0, .int 0, .int 0]))]) [0] (by decide) rfl
  have hFc := va_free (wc := [(qX, .inr (3, [.null, .null, .null, .null, .null, .null, .null, .int 0, .int 0, .int 0, .int 0, .int 0]))]) hD hS hA [0] rfl
  refine va_callv (va_runI (As := []) (rest := [.ref qX]) ⟨hx, hb, hml, hown, hts⟩ (gc_Flow l D cA qX H.size) (cwI 0 hts (gx_goodC gw_Flow_in lw_inT) rfl rfl rfl (hts _ (lw_inT _ (show Cond.initialized gR3 ∈ gx_TBL from gx_in1 1 rfl rfl))) (hts _ (lw_inT _ (show Cond.methodLink R_law 9 gy_Flow ∈ gx_TBL from gx_in1 11 rfl rfl))) (hts _ (lw_inT _ (show Cond.instanceMethod gy_Flow ∈ gx_TBL from gx_in1 12 rfl rfl))) rfl (by decide +kernel) ⟨Nat.le_of_ble_eq_true rfl, Nat.le_of_ble_eq_true rfl⟩) ⟨fun a U g mk q => by obtain ⟨q0, q1, qP, qK, qD, q4⟩ := q; exact ⟨q0, q1, qP, va_K.moved (u := U) (U := U.calling g mk a) (Vm.Alike.refl U.vm) qK, qD, q4.call⟩, fun U hU hW => ⟨rfl, by rw [hU], by rw [hU]; exact hPc, va_K.moved hW.alike hK, hDc.weaken (fun _ _ _ _ => trivial), gx_N4.moved hW hN4⟩⟩ rfl rfl hl.1 rfl (lv_room (Nat.le_of_ble_eq_true rfl)) (show decode code 4 = .ok (.invokespecial 9, 3) by decide +kernel) ⟨Nat.le_of_ble_eq_true rfl, Nat.le_of_ble_eq_true rfl⟩) hS (fun q _ h => hFc q h) hFc (fun uX t H1 locs ht hvm hw hB hz1 hk1 hS => ?_)
  obtain ⟨hP1, hK1, hD1⟩ := hB
  rw [ht] at hP1
  obtain ⟨hP, hD⟩ := va_join (wr := []) hP hD [0] [] rfl rfl (by decide) (by decide) hk1 hFc hP1 hD1
  generalize H1 = H at hP hS ⊢
  have hP : va_P D gx_cl [(qX, .inr (3, [.ref (uX 0), .ref (uX 1), .ref (uX 2), .ref (uX 3), .ref (uX 4), .ref (uX 7), .ref (uX 8), .int 0, .int 0, .int 0, .int 0, .int 0])), (uX 0, .inr (0, [.ref (uX 10), .ref (uX 11), .ref (uX 12), .ref (uX 13), .ref (uX 14), .ref (uX 15), .ref (uX 16), .int 0, .int 0, .int 0])), (uX 10, .inl (cA .int, 10, .inl (fun _ => 0))), (uX 11, .inl (cA .int, 10, .inl (fun _ => 0))), (uX 12, .inl (cA .int, 40, .inl (fun _ => 0))), (uX 13, .inl (cA .int, 40, .inl (fun _ => 0))), (uX 14, .inl (cA .int, 40, .inl (fun _ => 0))), (uX 15, .inl (cA .int, 40, .inl (fun _ => 0))), (uX 16, .inl (cA .boolean, 40, .inl (fun _ => 0))), (uX 1, .inr (1, [.ref (uX 20), .ref (uX 21), .ref (uX 22), .ref (uX 23), .ref (uX 24), .ref (uX 25), .ref (uX 26), .ref (uX 27), .ref (uX 28), .ref (uX 29)])), (uX 20, .inl (cA .int, 61, .inl (fun _ => 0))), (uX 21, .inl (cA .int, 61, .inl (fun _ => 0))), (uX 22, .inl (cA .int, 61, .inl (fun _ => 0))), (uX 23, .inl (cA .int, 61, .inl (fun _ => 0))), (uX 24, .inl (cA .int, 61, .inl (fun _ => 0))), (uX 25, .inl (cA .boolean, 61, .inl (fun _ => 0))), (uX 26, .inl (cA .int, 924, .inl (fun _ => 0))), (uX 27, .inl (cA .int, 22, .inl (fun _ => 0))), (uX 28, .inl (cA .int, 22, .inl (fun _ => 0))), (uX 29, .inl (cA .int, 22, .inl (fun _ => 0))), (uX 2, .inr (2, [.ref (uX 40), .ref (uX 41), .int 0, .ref (uX 42), .ref (uX 43), .ref (uX 44), .ref (uX 45), .ref (uX 46)])), (uX 40, .inl (cA .int, 50, .inl (fun _ => 0))), (uX 41, .inl (cA .int, 50, .inl (fun _ => 0))), (uX 42, .inl (cA .int, 500, .inl (fun _ => 0))), (uX 43, .inl (cA .int, 40, .inl (fun _ => 0))), (uX 44, .inl (cA .int, 10, .inl (fun _ => 0))), (uX 45, .inl (cA .int, 10, .inl (fun _ => 0))), (uX 46, .inl (cA .int, 10, .inl (fun _ => 0))), (uX 3, .inl (cA .int, 61, .inl (fun _ => 0))), (uX 4, .inl (cA (.array .int), 2, .inr (.inr (.inr (.inr (fun i : Nat => ([uX 5, uX 6] : List Nat)[i]?)))))), (uX 5, .inl (cA .int, 61, .inl (fun _ => 0))), (uX 6, .inl (cA .int, 61, .inl (fun _ => 0))), (uX 7, .inl (cA .boolean, 2, .inl (fun _ => 0))), (uX 8, .inl (cA .int, 40, .inl (fun _ => 0)))] H := hP
  have hD : va_D (fun q : Nat => s.heap.size ≤ q) [(qX, .inr (3, [.ref (uX 0), .ref (uX 1), .ref (uX 2), .ref (uX 3), .ref (uX 4), .ref (uX 7), .ref (uX 8), .int 0, .int 0, .int 0, .int 0, .int 0])), (uX 0, .inr (0, [.ref (uX 10), .ref (uX 11), .ref (uX 12), .ref (uX 13), .ref (uX 14), .ref (uX 15), .ref (uX 16), .int 0, .int 0, .int 0])), (uX 10, .inl (cA .int, 10, .inl (fun _ => 0))), (uX 11, .inl (cA .int, 10, .inl (fun _ => 0))), (uX 12, .inl (cA .int, 40, .inl (fun _ => 0))), (uX 13, .inl (cA .int, 40, .inl (fun _ => 0))), (uX 14, .inl (cA .int, 40, .inl (fun _ => 0))), (uX 15, .inl (cA .int, 40, .inl (fun _ => 0))), (uX 16, .inl (cA .boolean, 40, .inl (fun _ => 0))), (uX 1, .inr (1, [.ref (uX 20), .ref (uX 21), .ref (uX 22), .ref (uX 23), .ref (uX 24), .ref (uX 25), .ref (uX 26), .ref (uX 27), .ref (uX 28), .ref (uX 29)])), (uX 20, .inl (cA .int, 61, .inl (fun _ => 0))), (uX 21, .inl (cA .int, 61, .inl (fun _ => 0))), (uX 22, .inl (cA .int, 61, .inl (fun _ => 0))), (uX 23, .inl (cA .int, 61, .inl (fun _ => 0))), (uX 24, .inl (cA .int, 61, .inl (fun _ => 0))), (uX 25, .inl (cA .boolean, 61, .inl (fun _ => 0))), (uX 26, .inl (cA .int, 924, .inl (fun _ => 0))), (uX 27, .inl (cA .int, 22, .inl (fun _ => 0))), (uX 28, .inl (cA .int, 22, .inl (fun _ => 0))), (uX 29, .inl (cA .int, 22, .inl (fun _ => 0))), (uX 2, .inr (2, [.ref (uX 40), .ref (uX 41), .int 0, .ref (uX 42), .ref (uX 43), .ref (uX 44), .ref (uX 45), .ref (uX 46)])), (uX 40, .inl (cA .int, 50, .inl (fun _ => 0))), (uX 41, .inl (cA .int, 50, .inl (fun _ => 0))), (uX 42, .inl (cA .int, 500, .inl (fun _ => 0))), (uX 43, .inl (cA .int, 40, .inl (fun _ => 0))), (uX 44, .inl (cA .int, 10, .inl (fun _ => 0))), (uX 45, .inl (cA .int, 10, .inl (fun _ => 0))), (uX 46, .inl (cA .int, 10, .inl (fun _ => 0))), (uX 3, .inl (cA .int, 61, .inl (fun _ => 0))), (uX 4, .inl (cA (.array .int), 2, .inr (.inr (.inr (.inr (fun i : Nat => ([uX 5, uX 6] : List Nat)[i]?)))))), (uX 5, .inl (cA .int, 61, .inl (fun _ => 0))), (uX 6, .inl (cA .int, 61, .inl (fun _ => 0))), (uX 7, .inl (cA .boolean, 2, .inl (fun _ => 0))), (uX 8, .inl (cA .int, 40, .inl (fun _ => 0)))] := hD
  refine W.cs (cells' := 34) (slots' := 2513) rfl rfl ?_
  refine lv_astore_n (lv' := [(1, .ref qX), (0, .ref b)]) hx hb (show decode code 7 = .ok (.astore_n 1, 1) by decide +kernel) rfl hl (by decide) rfl (fun ls hl => ?_)
  refine va_new (ci := 4) (fs := [.int 0, .null, .null, .int 0, .null, .null, .null, .null, .null, .int 0, .null, .null, .null, .null, .null, .null, .int 0, .int 0, .null, .null, .null, .int 0, .null, .null, .null, .null, .null, .null, .null]) (C := gR4) (T := gT4) (N := 29) hx hb hts (fun w h => lw_inT w (gx_lay4 w h)) gY4 gY4_ok hown (hts _ (lw_inT _ (show Cond.classLink R_law 10 gR4 ∈ gx_TBL from gx_in2 205 rfl rfl))) (hts _ (lw_inT _ (show Cond.instantiable gR4 29 ∈ gx_TBL from gx_in2 206 rfl rfl))) (hts _ (lw_inT _ (show Cond.initialized gR4 ∈ gx_TBL from gx_in1 5 rfl rfl))) hK hP hD hS hA rfl (fun j hj => by rcases (show j = 0 ∨ j = 1 ∨ j = 2 ∨ j = 3 ∨ j = 4 ∨ j = 5 ∨ j = 6 ∨ j = 7 ∨ j = 8 ∨ j = 9 ∨ j = 10 ∨ j = 11 ∨ j = 12 ∨ j = 13 ∨ j = 14 ∨ j = 15 ∨ j = 16 ∨ j = 17 ∨ j = 18 ∨ j = 19 ∨ j = 20 ∨ j = 21 ∨ j = 22 ∨ j = 23 ∨ j = 24 ∨ j = 25 ∨ j = 26 ∨ j = 27 ∨ j = 28 by omega) with rfl | rfl | rfl | rfl | rfl | rfl | rfl | rfl | rfl | rfl | rfl | rfl | rfl | rfl | rfl | rfl | rfl | rfl | rfl | rfl | rfl | rfl | rfl | rfl | rfl | rfl | rfl | rfl | rfl <;> rfl) (Nat.le_of_ble_eq_true rfl) (Nat.le_of_ble_eq_true rfl) (show decode code 8 = .ok (.new 10, 3) by decide +kernel) (fun qM H hP hD hS => ?_)
  have hP : va_P D gx_cl [(qX, .inr (3, [.ref (uX 0), .ref (uX 1), .ref (uX 2), .ref (uX 3), .ref (uX 4), .ref (uX 7), .ref (uX 8), .int 0, .int 0, .int 0, .int 0, .int 0])), (uX 0, .inr (0, [.ref (uX 10), .ref (uX 11), .ref (uX 12), .ref (uX 13), .ref (uX 14), .ref (uX 15), .ref (uX 16), .int 0, .int 0, .int 0])), (uX 10, .inl (cA .int, 10, .inl (fun _ => 0))), (uX 11, .inl (cA .int, 10, .inl (fun _ => 0))), (uX 12, .inl (cA .int, 40, .inl (fun _ => 0))), (uX 13, .inl (cA .int, 40, .inl (fun _ => 0))), (uX 14, .inl (cA .int, 40, .inl (fun _ => 0))), (uX 15, .inl (cA .int, 40, .inl (fun _ => 0))), (uX 16, .inl (cA .boolean, 40, .inl (fun _ => 0))), (uX 1, .inr (1, [.ref (uX 20), .ref (uX 21), .ref (uX 22), .ref (uX 23), .ref (uX 24), .ref (uX 25), .ref (uX 26), .ref (uX 27), .ref (uX 28), .ref (uX 29)])), (uX 20, .inl (cA .int, 61, .inl (fun _ => 0))), (uX 21, .inl (cA .int, 61, .inl (fun _ => 0))), (uX 22, .inl (cA .int, 61, .inl (fun _ => 0))), (uX 23, .inl (cA .int, 61, .inl (fun _ => 0))), (uX 24, .inl (cA .int, 61, .inl (fun _ => 0))), (uX 25, .inl (cA .boolean, 61, .inl (fun _ => 0))), (uX 26, .inl (cA .int, 924, .inl (fun _ => 0))), (uX 27, .inl (cA .int, 22, .inl (fun _ => 0))), (uX 28, .inl (cA .int, 22, .inl (fun _ => 0))), (uX 29, .inl (cA .int, 22, .inl (fun _ => 0))), (uX 2, .inr (2, [.ref (uX 40), .ref (uX 41), .int 0, .ref (uX 42), .ref (uX 43), .ref (uX 44), .ref (uX 45), .ref (uX 46)])), (uX 40, .inl (cA .int, 50, .inl (fun _ => 0))), (uX 41, .inl (cA .int, 50, .inl (fun _ => 0))), (uX 42, .inl (cA .int, 500, .inl (fun _ => 0))), (uX 43, .inl (cA .int, 40, .inl (fun _ => 0))), (uX 44, .inl (cA .int, 10, .inl (fun _ => 0))), (uX 45, .inl (cA .int, 10, .inl (fun _ => 0))), (uX 46, .inl (cA .int, 10, .inl (fun _ => 0))), (uX 3, .inl (cA .int, 61, .inl (fun _ => 0))), (uX 4, .inl (cA (.array .int), 2, .inr (.inr (.inr (.inr (fun i : Nat => ([uX 5, uX 6] : List Nat)[i]?)))))), (uX 5, .inl (cA .int, 61, .inl (fun _ => 0))), (uX 6, .inl (cA .int, 61, .inl (fun _ => 0))), (uX 7, .inl (cA .boolean, 2, .inl (fun _ => 0))), (uX 8, .inl (cA .int, 40, .inl (fun _ => 0))), (qM, .inr (4, [.int 0, .null, .null, .int 0, .null, .null, .null, .null, .null, .int 0, .null, .null, .null, .null, .null, .null, .int 0, .int 0, .null, .null, .null, .int 0, .null, .null, .null, .null, .null, .null, .null]))] H := hP
  have hD : va_D (fun q : Nat => s.heap.size ≤ q) [(qX, .inr (3, [.ref (uX 0), .ref (uX 1), .ref (uX 2), .ref (uX 3), .ref (uX 4), .ref (uX 7), .ref (uX 8), .int 0, .int 0, .int 0, .int 0, .int 0])), (uX 0, .inr (0, [.ref (uX 10), .ref (uX 11), .ref (uX 12), .ref (uX 13), .ref (uX 14), .ref (uX 15), .ref (uX 16), .int 0, .int 0, .int 0])), (uX 10, .inl (cA .int, 10, .inl (fun _ => 0))), (uX 11, .inl (cA .int, 10, .inl (fun _ => 0))), (uX 12, .inl (cA .int, 40, .inl (fun _ => 0))), (uX 13, .inl (cA .int, 40, .inl (fun _ => 0))), (uX 14, .inl (cA .int, 40, .inl (fun _ => 0))), (uX 15, .inl (cA .int, 40, .inl (fun _ => 0))), (uX 16, .inl (cA .boolean, 40, .inl (fun _ => 0))), (uX 1, .inr (1, [.ref (uX 20), .ref (uX 21), .ref (uX 22), .ref (uX 23), .ref (uX 24), .ref (uX 25), .ref (uX 26), .ref (uX 27), .ref (uX 28), .ref (uX 29)])), (uX 20, .inl (cA .int, 61, .inl (fun _ => 0))), (uX 21, .inl (cA .int, 61, .inl (fun _ => 0))), (uX 22, .inl (cA .int, 61, .inl (fun _ => 0))), (uX 23, .inl (cA .int, 61, .inl (fun _ => 0))), (uX 24, .inl (cA .int, 61, .inl (fun _ => 0))), (uX 25, .inl (cA .boolean, 61, .inl (fun _ => 0))), (uX 26, .inl (cA .int, 924, .inl (fun _ => 0))), (uX 27, .inl (cA .int, 22, .inl (fun _ => 0))), (uX 28, .inl (cA .int, 22, .inl (fun _ => 0))), (uX 29, .inl (cA .int, 22, .inl (fun _ => 0))), (uX 2, .inr (2, [.ref (uX 40), .ref (uX 41), .int 0, .ref (uX 42), .ref (uX 43), .ref (uX 44), .ref (uX 45), .ref (uX 46)])), (uX 40, .inl (cA .int, 50, .inl (fun _ => 0))), (uX 41, .inl (cA .int, 50, .inl (fun _ => 0))), (uX 42, .inl (cA .int, 500, .inl (fun _ => 0))), (uX 43, .inl (cA .int, 40, .inl (fun _ => 0))), (uX 44, .inl (cA .int, 10, .inl (fun _ => 0))), (uX 45, .inl (cA .int, 10, .inl (fun _ => 0))), (uX 46, .inl (cA .int, 10, .inl (fun _ => 0))), (uX 3, .inl (cA .int, 61, .inl (fun _ => 0))), (uX 4, .inl (cA (.array .int), 2, .inr (.inr (.inr (.inr (fun i : Nat => ([uX 5, uX 6] : List Nat)[i]?)))))), (uX 5, .inl (cA .int, 61, .inl (fun _ => 0))), (uX 6, .inl (cA .int, 61, .inl (fun _ => 0))), (uX 7, .inl (cA .boolean, 2, .inl (fun _ => 0))), (uX 8, .inl (cA .int, 40, .inl (fun _ => 0))), (qM, .inr (4, [.int 0, .null, .null, .int 0, .null, .null, .null, .null, .null, .int 0, .null, .null, .null, .null, .null, .null, .int 0, .int 0, .null, .null, .null, .int 0, .null, .null, .null, .null, .null, .null, .null]))] := hD
  refine W.cs (cells' := 35) (slots' := 2542) rfl rfl ?_
  refine lv_dup hx hb (show decode code 11 = .ok (.dup, 1) by decide +kernel) rfl ?_
  have hPc := hP.sub (ws' := [(qM, .inr (4, [.int 0, .null, .null, .int 0, .null, .null, .null, .null, .null, .int 0, .null, .null, .null, .null, .null, .null, .int 0, .int 0, .null, .null, .null, .int 0, .null, .null, .null, .null, .null, .null, .null]))]) [34] rfl
  have hDc := hD.sub (ws' := [(qM, .inr (4, [.int 0, .null, .null, .int 0, .null, .null, .null, .null, .null, .int 0, .null, .null, .null, .null, .null, .null, .int 0, .int 0, .null, .null, .null, .int 0, .null, .null, .null, .null, .null, .null, .null]))]) [34] (by decide) rfl
  have hFc := va_free (wc := [(qM, .inr (4, [.int 0, .null, .null, .int 0, .null, .null, .null, .null, .null, .int 0, .null, .null, .null, .null, .null, .null, .int 0, .int 0, .null, .null, .null, .int 0, .null, .null, .null, .null, .null, .null, .null]))]) hD hS hA [34] rfl
  refine va_callv (va_runI (As := []) (rest := [.ref qM]) ⟨hx, hb, hml, hown, hts⟩ (gc_Model l D cA qM H.size) (cwI 0 hts (gx_goodC gw_Model_in lw_inT) rfl rfl rfl (hts _ (lw_inT _ (show Cond.initialized gR4 ∈ gx_TBL from gx_in1 5 rfl rfl))) (hts _ (lw_inT _ (show Cond.methodLink R_law 12 gy_Model ∈ gx_TBL from gx_in2 207 rfl rfl))) (hts _ (lw_inT _ (show Cond.instanceMethod gy_Model ∈ gx_TBL from gx_in2 208 rfl rfl))) rfl (by decide +kernel) ⟨Nat.le_of_ble_eq_true rfl, Nat.le_of_ble_eq_true rfl⟩) ⟨fun a U g mk q => by obtain ⟨q0, q1, qP, qK, qD⟩ := q; exact ⟨q0, q1, qP, va_K.moved (u := U) (U := U.calling g mk a) (Vm.Alike.refl U.vm) qK, qD⟩, fun U hU hW => ⟨rfl, by rw [hU], by rw [hU]; exact hPc, va_K.moved hW.alike hK, hDc.weaken (fun _ _ _ _ => trivial)⟩⟩ rfl rfl hl.1 rfl (lv_room (Nat.le_of_ble_eq_true rfl)) (show decode code 12 = .ok (.invokespecial 12, 3) by decide +kernel) ⟨Nat.le_of_ble_eq_true rfl, Nat.le_of_ble_eq_true rfl⟩) hS (fun q _ h => hFc q h) hFc (fun uM t H1 locs ht hvm hw hB hz1 hk1 hS => ?_)
  obtain ⟨hP1, hK1, hD1⟩ := hB
  rw [ht] at hP1
  obtain ⟨hP, hD⟩ := va_join (wr := [(qX, .inr (3, [.ref (uX 0), .ref (uX 1), .ref (uX 2), .ref (uX 3), .ref (uX 4), .ref (uX 7), .ref (uX 8), .int 0, .int 0, .int 0, .int 0, .int 0])), (uX 0, .inr (0, [.ref (uX 10), .ref (uX 11), .ref (uX 12), .ref (uX 13), .ref (uX 14), .ref (uX 15), .ref (uX 16), .int 0, .int 0, .int 0])), (uX 10, .inl (cA .int, 10, .inl (fun _ => 0))), (uX 11, .inl (cA .int, 10, .inl (fun _ => 0))), (uX 12, .inl (cA .int, 40, .inl (fun _ => 0))), (uX 13, .inl (cA .int, 40, .inl (fun _ => 0))), (uX 14, .inl (cA .int, 40, .inl (fun _ => 0))), (uX 15, .inl (cA .int, 40, .inl (fun _ => 0))), (uX 16, .inl (cA .boolean, 40, .inl (fun _ => 0))), (uX 1, .inr (1, [.ref (uX 20), .ref (uX 21), .ref (uX 22), .ref (uX 23), .ref (uX 24), .ref (uX 25), .ref (uX 26), .ref (uX 27), .ref (uX 28), .ref (uX 29)])), (uX 20, .inl (cA .int, 61, .inl (fun _ => 0))), (uX 21, .inl (cA .int, 61, .inl (fun _ => 0))), (uX 22, .inl (cA .int, 61, .inl (fun _ => 0))), (uX 23, .inl (cA .int, 61, .inl (fun _ => 0))), (uX 24, .inl (cA .int, 61, .inl (fun _ => 0))), (uX 25, .inl (cA .boolean, 61, .inl (fun _ => 0))), (uX 26, .inl (cA .int, 924, .inl (fun _ => 0))), (uX 27, .inl (cA .int, 22, .inl (fun _ => 0))), (uX 28, .inl (cA .int, 22, .inl (fun _ => 0))), (uX 29, .inl (cA .int, 22, .inl (fun _ => 0))), (uX 2, .inr (2, [.ref (uX 40), .ref (uX 41), .int 0, .ref (uX 42), .ref (uX 43), .ref (uX 44), .ref (uX 45), .ref (uX 46)])), (uX 40, .inl (cA .int, 50, .inl (fun _ => 0))), (uX 41, .inl (cA .int, 50, .inl (fun _ => 0))), (uX 42, .inl (cA .int, 500, .inl (fun _ => 0))), (uX 43, .inl (cA .int, 40, .inl (fun _ => 0))), (uX 44, .inl (cA .int, 10, .inl (fun _ => 0))), (uX 45, .inl (cA .int, 10, .inl (fun _ => 0))), (uX 46, .inl (cA .int, 10, .inl (fun _ => 0))), (uX 3, .inl (cA .int, 61, .inl (fun _ => 0))), (uX 4, .inl (cA (.array .int), 2, .inr (.inr (.inr (.inr (fun i : Nat => ([uX 5, uX 6] : List Nat)[i]?)))))), (uX 5, .inl (cA .int, 61, .inl (fun _ => 0))), (uX 6, .inl (cA .int, 61, .inl (fun _ => 0))), (uX 7, .inl (cA .boolean, 2, .inl (fun _ => 0))), (uX 8, .inl (cA .int, 40, .inl (fun _ => 0)))]) hP hD [34] [0, 1, 2, 3, 4, 5, 6, 7, 8, 9, 10, 11, 12, 13, 14, 15, 16, 17, 18, 19, 20, 21, 22, 23, 24, 25, 26, 27, 28, 29, 30, 31, 32, 33] rfl rfl (by decide) (by decide) hk1 hFc hP1 hD1
  generalize H1 = H at hP hS ⊢
  have hP : va_P D gx_cl [(qX, .inr (3, [.ref (uX 0), .ref (uX 1), .ref (uX 2), .ref (uX 3), .ref (uX 4), .ref (uX 7), .ref (uX 8), .int 0, .int 0, .int 0, .int 0, .int 0])), (uX 0, .inr (0, [.ref (uX 10), .ref (uX 11), .ref (uX 12), .ref (uX 13), .ref (uX 14), .ref (uX 15), .ref (uX 16), .int 0, .int 0, .int 0])), (uX 10, .inl (cA .int, 10, .inl (fun _ => 0))), (uX 11, .inl (cA .int, 10, .inl (fun _ => 0))), (uX 12, .inl (cA .int, 40, .inl (fun _ => 0))), (uX 13, .inl (cA .int, 40, .inl (fun _ => 0))), (uX 14, .inl (cA .int, 40, .inl (fun _ => 0))), (uX 15, .inl (cA .int, 40, .inl (fun _ => 0))), (uX 16, .inl (cA .boolean, 40, .inl (fun _ => 0))), (uX 1, .inr (1, [.ref (uX 20), .ref (uX 21), .ref (uX 22), .ref (uX 23), .ref (uX 24), .ref (uX 25), .ref (uX 26), .ref (uX 27), .ref (uX 28), .ref (uX 29)])), (uX 20, .inl (cA .int, 61, .inl (fun _ => 0))), (uX 21, .inl (cA .int, 61, .inl (fun _ => 0))), (uX 22, .inl (cA .int, 61, .inl (fun _ => 0))), (uX 23, .inl (cA .int, 61, .inl (fun _ => 0))), (uX 24, .inl (cA .int, 61, .inl (fun _ => 0))), (uX 25, .inl (cA .boolean, 61, .inl (fun _ => 0))), (uX 26, .inl (cA .int, 924, .inl (fun _ => 0))), (uX 27, .inl (cA .int, 22, .inl (fun _ => 0))), (uX 28, .inl (cA .int, 22, .inl (fun _ => 0))), (uX 29, .inl (cA .int, 22, .inl (fun _ => 0))), (uX 2, .inr (2, [.ref (uX 40), .ref (uX 41), .int 0, .ref (uX 42), .ref (uX 43), .ref (uX 44), .ref (uX 45), .ref (uX 46)])), (uX 40, .inl (cA .int, 50, .inl (fun _ => 0))), (uX 41, .inl (cA .int, 50, .inl (fun _ => 0))), (uX 42, .inl (cA .int, 500, .inl (fun _ => 0))), (uX 43, .inl (cA .int, 40, .inl (fun _ => 0))), (uX 44, .inl (cA .int, 10, .inl (fun _ => 0))), (uX 45, .inl (cA .int, 10, .inl (fun _ => 0))), (uX 46, .inl (cA .int, 10, .inl (fun _ => 0))), (uX 3, .inl (cA .int, 61, .inl (fun _ => 0))), (uX 4, .inl (cA (.array .int), 2, .inr (.inr (.inr (.inr (fun i : Nat => ([uX 5, uX 6] : List Nat)[i]?)))))), (uX 5, .inl (cA .int, 61, .inl (fun _ => 0))), (uX 6, .inl (cA .int, 61, .inl (fun _ => 0))), (uX 7, .inl (cA .boolean, 2, .inl (fun _ => 0))), (uX 8, .inl (cA .int, 40, .inl (fun _ => 0))), (qM, .inr (4, [.int 0, .ref (uM 0), .ref (uM 1), .int 0, .ref (uM 2), .ref (uM 3), .ref (uM 4), .ref (uM 5), .ref (uM 6), .int 0, .ref (uM 7), .ref (uM 8), .ref (uM 9), .ref (uM 10), .ref (uM 11), .ref (uM 12), .int 0, .int 0, .ref (uM 13), .ref (uM 14), .ref (uM 15), .int 0, .ref (uM 16), .ref (uM 17), .ref (uM 18), .ref (uM 19), .ref (uM 20), .ref (uM 21), .ref (uM 22)])), (uM 0, .inl (cA .int, 10, .inl (fun _ => 0))), (uM 1, .inl (cA .int, 10, .inl (fun _ => 0))), (uM 2, .inl (cA .int, 40, .inl (fun _ => 0))), (uM 3, .inl (cA .int, 40, .inl (fun _ => 0))), (uM 4, .inl (cA .int, 40, .inl (fun _ => 0))), (uM 5, .inl (cA .int, 40, .inl (fun _ => 0))), (uM 6, .inl (cA .boolean, 40, .inl (fun _ => 0))), (uM 7, .inl (cA .int, 40, .inl (fun _ => 0))), (uM 8, .inl (cA .int, 40, .inl (fun _ => 0))), (uM 9, .inl (cA .int, 10, .inl (fun _ => 0))), (uM 10, .inl (cA .int, 576, .inl (fun _ => 0))), (uM 11, .inl (cA .int, 24, .inl (fun _ => 0))), (uM 12, .inl (cA .int, 24, .inl (fun _ => 0))), (uM 13, .inl (cA .int, 2, .inl (fun _ => 0))), (uM 14, .inl (cA .int, 80, .inl (fun _ => 0))), (uM 15, .inl (cA .boolean, 40, .inl (fun _ => 0))), (uM 16, .inl (cA .int, 80, .inl (fun _ => 0))), (uM 17, .inl (cA .int, 80, .inl (fun _ => 0))), (uM 18, .inl (cA .int, 800, .inl (fun _ => 0))), (uM 19, .inl (cA .int, 40, .inl (fun _ => 0))), (uM 20, .inl (cA .int, 10, .inl (fun _ => 0))), (uM 21, .inl (cA .int, 12, .inl (fun _ => 0))), (uM 22, .inl (cA .int, 10, .inl (fun _ => 0)))] H := hP
  have hD : va_D (fun q : Nat => s.heap.size ≤ q) [(qX, .inr (3, [.ref (uX 0), .ref (uX 1), .ref (uX 2), .ref (uX 3), .ref (uX 4), .ref (uX 7), .ref (uX 8), .int 0, .int 0, .int 0, .int 0, .int 0])), (uX 0, .inr (0, [.ref (uX 10), .ref (uX 11), .ref (uX 12), .ref (uX 13), .ref (uX 14), .ref (uX 15), .ref (uX 16), .int 0, .int 0, .int 0])), (uX 10, .inl (cA .int, 10, .inl (fun _ => 0))), (uX 11, .inl (cA .int, 10, .inl (fun _ => 0))), (uX 12, .inl (cA .int, 40, .inl (fun _ => 0))), (uX 13, .inl (cA .int, 40, .inl (fun _ => 0))), (uX 14, .inl (cA .int, 40, .inl (fun _ => 0))), (uX 15, .inl (cA .int, 40, .inl (fun _ => 0))), (uX 16, .inl (cA .boolean, 40, .inl (fun _ => 0))), (uX 1, .inr (1, [.ref (uX 20), .ref (uX 21), .ref (uX 22), .ref (uX 23), .ref (uX 24), .ref (uX 25), .ref (uX 26), .ref (uX 27), .ref (uX 28), .ref (uX 29)])), (uX 20, .inl (cA .int, 61, .inl (fun _ => 0))), (uX 21, .inl (cA .int, 61, .inl (fun _ => 0))), (uX 22, .inl (cA .int, 61, .inl (fun _ => 0))), (uX 23, .inl (cA .int, 61, .inl (fun _ => 0))), (uX 24, .inl (cA .int, 61, .inl (fun _ => 0))), (uX 25, .inl (cA .boolean, 61, .inl (fun _ => 0))), (uX 26, .inl (cA .int, 924, .inl (fun _ => 0))), (uX 27, .inl (cA .int, 22, .inl (fun _ => 0))), (uX 28, .inl (cA .int, 22, .inl (fun _ => 0))), (uX 29, .inl (cA .int, 22, .inl (fun _ => 0))), (uX 2, .inr (2, [.ref (uX 40), .ref (uX 41), .int 0, .ref (uX 42), .ref (uX 43), .ref (uX 44), .ref (uX 45), .ref (uX 46)])), (uX 40, .inl (cA .int, 50, .inl (fun _ => 0))), (uX 41, .inl (cA .int, 50, .inl (fun _ => 0))), (uX 42, .inl (cA .int, 500, .inl (fun _ => 0))), (uX 43, .inl (cA .int, 40, .inl (fun _ => 0))), (uX 44, .inl (cA .int, 10, .inl (fun _ => 0))), (uX 45, .inl (cA .int, 10, .inl (fun _ => 0))), (uX 46, .inl (cA .int, 10, .inl (fun _ => 0))), (uX 3, .inl (cA .int, 61, .inl (fun _ => 0))), (uX 4, .inl (cA (.array .int), 2, .inr (.inr (.inr (.inr (fun i : Nat => ([uX 5, uX 6] : List Nat)[i]?)))))), (uX 5, .inl (cA .int, 61, .inl (fun _ => 0))), (uX 6, .inl (cA .int, 61, .inl (fun _ => 0))), (uX 7, .inl (cA .boolean, 2, .inl (fun _ => 0))), (uX 8, .inl (cA .int, 40, .inl (fun _ => 0))), (qM, .inr (4, [.int 0, .ref (uM 0), .ref (uM 1), .int 0, .ref (uM 2), .ref (uM 3), .ref (uM 4), .ref (uM 5), .ref (uM 6), .int 0, .ref (uM 7), .ref (uM 8), .ref (uM 9), .ref (uM 10), .ref (uM 11), .ref (uM 12), .int 0, .int 0, .ref (uM 13), .ref (uM 14), .ref (uM 15), .int 0, .ref (uM 16), .ref (uM 17), .ref (uM 18), .ref (uM 19), .ref (uM 20), .ref (uM 21), .ref (uM 22)])), (uM 0, .inl (cA .int, 10, .inl (fun _ => 0))), (uM 1, .inl (cA .int, 10, .inl (fun _ => 0))), (uM 2, .inl (cA .int, 40, .inl (fun _ => 0))), (uM 3, .inl (cA .int, 40, .inl (fun _ => 0))), (uM 4, .inl (cA .int, 40, .inl (fun _ => 0))), (uM 5, .inl (cA .int, 40, .inl (fun _ => 0))), (uM 6, .inl (cA .boolean, 40, .inl (fun _ => 0))), (uM 7, .inl (cA .int, 40, .inl (fun _ => 0))), (uM 8, .inl (cA .int, 40, .inl (fun _ => 0))), (uM 9, .inl (cA .int, 10, .inl (fun _ => 0))), (uM 10, .inl (cA .int, 576, .inl (fun _ => 0))), (uM 11, .inl (cA .int, 24, .inl (fun _ => 0))), (uM 12, .inl (cA .int, 24, .inl (fun _ => 0))), (uM 13, .inl (cA .int, 2, .inl (fun _ => 0))), (uM 14, .inl (cA .int, 80, .inl (fun _ => 0))), (uM 15, .inl (cA .boolean, 40, .inl (fun _ => 0))), (uM 16, .inl (cA .int, 80, .inl (fun _ => 0))), (uM 17, .inl (cA .int, 80, .inl (fun _ => 0))), (uM 18, .inl (cA .int, 800, .inl (fun _ => 0))), (uM 19, .inl (cA .int, 40, .inl (fun _ => 0))), (uM 20, .inl (cA .int, 10, .inl (fun _ => 0))), (uM 21, .inl (cA .int, 12, .inl (fun _ => 0))), (uM 22, .inl (cA .int, 10, .inl (fun _ => 0)))] := hD
  refine W.cs (cells' := 58) (slots' := 4630) rfl rfl ?_
  refine lv_astore_n (lv' := [(2, .ref qM), (1, .ref qX), (0, .ref b)]) hx hb (show decode code 15 = .ok (.astore_n 2, 1) by decide +kernel) rfl hl (by decide) rfl (fun ls hl => ?_)
  refine lv_iconst (v := 0) hx hb (show decode code 16 = .ok (.iconst 0, 1) by decide +kernel) (by decide) ?_
  refine lv_istore_n (lv' := [(3, .int 0), (2, .ref qM), (1, .ref qX), (0, .ref b)]) hx hb (show decode code 17 = .ok (.istore_n 3, 1) by decide +kernel) rfl hl (by decide) rfl (fun ls hl => ?_)
  have hPo := hP.sub (ws' := [(qX, .inr (3, [.ref (uX 0), .ref (uX 1), .ref (uX 2), .ref (uX 3), .ref (uX 4), .ref (uX 7), .ref (uX 8), .int 0, .int 0, .int 0, .int 0, .int 0])), (uX 0, .inr (0, [.ref (uX 10), .ref (uX 11), .ref (uX 12), .ref (uX 13), .ref (uX 14), .ref (uX 15), .ref (uX 16), .int 0, .int 0, .int 0])), (uX 1, .inr (1, [.ref (uX 20), .ref (uX 21), .ref (uX 22), .ref (uX 23), .ref (uX 24), .ref (uX 25), .ref (uX 26), .ref (uX 27), .ref (uX 28), .ref (uX 29)])), (uX 2, .inr (2, [.ref (uX 40), .ref (uX 41), .int 0, .ref (uX 42), .ref (uX 43), .ref (uX 44), .ref (uX 45), .ref (uX 46)])), (uX 10, .inl (cA .int, 10, .inl (fun _ => 0))), (uX 11, .inl (cA .int, 10, .inl (fun _ => 0))), (uX 12, .inl (cA .int, 40, .inl (fun _ => 0))), (uX 13, .inl (cA .int, 40, .inl (fun _ => 0))), (uX 14, .inl (cA .int, 40, .inl (fun _ => 0))), (uX 15, .inl (cA .int, 40, .inl (fun _ => 0))), (uX 16, .inl (cA .boolean, 40, .inl (fun _ => 0))), (uX 20, .inl (cA .int, 61, .inl (fun _ => 0))), (uX 21, .inl (cA .int, 61, .inl (fun _ => 0))), (uX 22, .inl (cA .int, 61, .inl (fun _ => 0))), (uX 23, .inl (cA .int, 61, .inl (fun _ => 0))), (uX 24, .inl (cA .int, 61, .inl (fun _ => 0))), (uX 25, .inl (cA .boolean, 61, .inl (fun _ => 0))), (uX 26, .inl (cA .int, 924, .inl (fun _ => 0))), (uX 27, .inl (cA .int, 22, .inl (fun _ => 0))), (uX 28, .inl (cA .int, 22, .inl (fun _ => 0))), (uX 29, .inl (cA .int, 22, .inl (fun _ => 0))), (uX 40, .inl (cA .int, 50, .inl (fun _ => 0))), (uX 41, .inl (cA .int, 50, .inl (fun _ => 0))), (uX 42, .inl (cA .int, 500, .inl (fun _ => 0))), (uX 43, .inl (cA .int, 40, .inl (fun _ => 0))), (uX 44, .inl (cA .int, 10, .inl (fun _ => 0))), (uX 45, .inl (cA .int, 10, .inl (fun _ => 0))), (uX 46, .inl (cA .int, 10, .inl (fun _ => 0))), (uX 3, .inl (cA .int, 61, .inl (fun _ => 0))), (uX 4, .inl (cA (.array .int), 2, .inr (.inr (.inr (.inr (fun i : Nat => ([uX 5, uX 6] : List Nat)[i]?)))))), (uX 5, .inl (cA .int, 61, .inl (fun _ => 0))), (uX 6, .inl (cA .int, 61, .inl (fun _ => 0))), (uX 7, .inl (cA .boolean, 2, .inl (fun _ => 0))), (uX 8, .inl (cA .int, 40, .inl (fun _ => 0))), (qM, .inr (4, [.int 0, .ref (uM 0), .ref (uM 1), .int 0, .ref (uM 2), .ref (uM 3), .ref (uM 4), .ref (uM 5), .ref (uM 6), .int 0, .ref (uM 7), .ref (uM 8), .ref (uM 9), .ref (uM 10), .ref (uM 11), .ref (uM 12), .int 0, .int 0, .ref (uM 13), .ref (uM 14), .ref (uM 15), .int 0, .ref (uM 16), .ref (uM 17), .ref (uM 18), .ref (uM 19), .ref (uM 20), .ref (uM 21), .ref (uM 22)])), (uM 0, .inl (cA .int, 10, .inl (fun _ => 0))), (uM 1, .inl (cA .int, 10, .inl (fun _ => 0))), (uM 2, .inl (cA .int, 40, .inl (fun _ => 0))), (uM 3, .inl (cA .int, 40, .inl (fun _ => 0))), (uM 4, .inl (cA .int, 40, .inl (fun _ => 0))), (uM 5, .inl (cA .int, 40, .inl (fun _ => 0))), (uM 6, .inl (cA .boolean, 40, .inl (fun _ => 0))), (uM 7, .inl (cA .int, 40, .inl (fun _ => 0))), (uM 8, .inl (cA .int, 40, .inl (fun _ => 0))), (uM 9, .inl (cA .int, 10, .inl (fun _ => 0))), (uM 10, .inl (cA .int, 576, .inl (fun _ => 0))), (uM 11, .inl (cA .int, 24, .inl (fun _ => 0))), (uM 12, .inl (cA .int, 24, .inl (fun _ => 0))), (uM 13, .inl (cA .int, 2, .inl (fun _ => 0))), (uM 14, .inl (cA .int, 80, .inl (fun _ => 0))), (uM 15, .inl (cA .boolean, 40, .inl (fun _ => 0))), (uM 16, .inl (cA .int, 80, .inl (fun _ => 0))), (uM 17, .inl (cA .int, 80, .inl (fun _ => 0))), (uM 18, .inl (cA .int, 800, .inl (fun _ => 0))), (uM 19, .inl (cA .int, 40, .inl (fun _ => 0))), (uM 20, .inl (cA .int, 10, .inl (fun _ => 0))), (uM 21, .inl (cA .int, 12, .inl (fun _ => 0))), (uM 22, .inl (cA .int, 10, .inl (fun _ => 0)))]) [0, 1, 9, 20, 2, 3, 4, 5, 6, 7, 8, 10, 11, 12, 13, 14, 15, 16, 17, 18, 19, 21, 22, 23, 24, 25, 26, 27, 28, 29, 30, 31, 32, 33, 34, 35, 36, 37, 38, 39, 40, 41, 42, 43, 44, 45, 46, 47, 48, 49, 50, 51, 52, 53, 54, 55, 56, 57] rfl
  have hDo := hD.sub (ws' := [(qX, .inr (3, [.ref (uX 0), .ref (uX 1), .ref (uX 2), .ref (uX 3), .ref (uX 4), .ref (uX 7), .ref (uX 8), .int 0, .int 0, .int 0, .int 0, .int 0])), (uX 0, .inr (0, [.ref (uX 10), .ref (uX 11), .ref (uX 12), .ref (uX 13), .ref (uX 14), .ref (uX 15), .ref (uX 16), .int 0, .int 0, .int 0])), (uX 1, .inr (1, [.ref (uX 20), .ref (uX 21), .ref (uX 22), .ref (uX 23), .ref (uX 24), .ref (uX 25), .ref (uX 26), .ref (uX 27), .ref (uX 28), .ref (uX 29)])), (uX 2, .inr (2, [.ref (uX 40), .ref (uX 41), .int 0, .ref (uX 42), .ref (uX 43), .ref (uX 44), .ref (uX 45), .ref (uX 46)])), (uX 10, .inl (cA .int, 10, .inl (fun _ => 0))), (uX 11, .inl (cA .int, 10, .inl (fun _ => 0))), (uX 12, .inl (cA .int, 40, .inl (fun _ => 0))), (uX 13, .inl (cA .int, 40, .inl (fun _ => 0))), (uX 14, .inl (cA .int, 40, .inl (fun _ => 0))), (uX 15, .inl (cA .int, 40, .inl (fun _ => 0))), (uX 16, .inl (cA .boolean, 40, .inl (fun _ => 0))), (uX 20, .inl (cA .int, 61, .inl (fun _ => 0))), (uX 21, .inl (cA .int, 61, .inl (fun _ => 0))), (uX 22, .inl (cA .int, 61, .inl (fun _ => 0))), (uX 23, .inl (cA .int, 61, .inl (fun _ => 0))), (uX 24, .inl (cA .int, 61, .inl (fun _ => 0))), (uX 25, .inl (cA .boolean, 61, .inl (fun _ => 0))), (uX 26, .inl (cA .int, 924, .inl (fun _ => 0))), (uX 27, .inl (cA .int, 22, .inl (fun _ => 0))), (uX 28, .inl (cA .int, 22, .inl (fun _ => 0))), (uX 29, .inl (cA .int, 22, .inl (fun _ => 0))), (uX 40, .inl (cA .int, 50, .inl (fun _ => 0))), (uX 41, .inl (cA .int, 50, .inl (fun _ => 0))), (uX 42, .inl (cA .int, 500, .inl (fun _ => 0))), (uX 43, .inl (cA .int, 40, .inl (fun _ => 0))), (uX 44, .inl (cA .int, 10, .inl (fun _ => 0))), (uX 45, .inl (cA .int, 10, .inl (fun _ => 0))), (uX 46, .inl (cA .int, 10, .inl (fun _ => 0))), (uX 3, .inl (cA .int, 61, .inl (fun _ => 0))), (uX 4, .inl (cA (.array .int), 2, .inr (.inr (.inr (.inr (fun i : Nat => ([uX 5, uX 6] : List Nat)[i]?)))))), (uX 5, .inl (cA .int, 61, .inl (fun _ => 0))), (uX 6, .inl (cA .int, 61, .inl (fun _ => 0))), (uX 7, .inl (cA .boolean, 2, .inl (fun _ => 0))), (uX 8, .inl (cA .int, 40, .inl (fun _ => 0))), (qM, .inr (4, [.int 0, .ref (uM 0), .ref (uM 1), .int 0, .ref (uM 2), .ref (uM 3), .ref (uM 4), .ref (uM 5), .ref (uM 6), .int 0, .ref (uM 7), .ref (uM 8), .ref (uM 9), .ref (uM 10), .ref (uM 11), .ref (uM 12), .int 0, .int 0, .ref (uM 13), .ref (uM 14), .ref (uM 15), .int 0, .ref (uM 16), .ref (uM 17), .ref (uM 18), .ref (uM 19), .ref (uM 20), .ref (uM 21), .ref (uM 22)])), (uM 0, .inl (cA .int, 10, .inl (fun _ => 0))), (uM 1, .inl (cA .int, 10, .inl (fun _ => 0))), (uM 2, .inl (cA .int, 40, .inl (fun _ => 0))), (uM 3, .inl (cA .int, 40, .inl (fun _ => 0))), (uM 4, .inl (cA .int, 40, .inl (fun _ => 0))), (uM 5, .inl (cA .int, 40, .inl (fun _ => 0))), (uM 6, .inl (cA .boolean, 40, .inl (fun _ => 0))), (uM 7, .inl (cA .int, 40, .inl (fun _ => 0))), (uM 8, .inl (cA .int, 40, .inl (fun _ => 0))), (uM 9, .inl (cA .int, 10, .inl (fun _ => 0))), (uM 10, .inl (cA .int, 576, .inl (fun _ => 0))), (uM 11, .inl (cA .int, 24, .inl (fun _ => 0))), (uM 12, .inl (cA .int, 24, .inl (fun _ => 0))), (uM 13, .inl (cA .int, 2, .inl (fun _ => 0))), (uM 14, .inl (cA .int, 80, .inl (fun _ => 0))), (uM 15, .inl (cA .boolean, 40, .inl (fun _ => 0))), (uM 16, .inl (cA .int, 80, .inl (fun _ => 0))), (uM 17, .inl (cA .int, 80, .inl (fun _ => 0))), (uM 18, .inl (cA .int, 800, .inl (fun _ => 0))), (uM 19, .inl (cA .int, 40, .inl (fun _ => 0))), (uM 20, .inl (cA .int, 10, .inl (fun _ => 0))), (uM 21, .inl (cA .int, 12, .inl (fun _ => 0))), (uM 22, .inl (cA .int, 10, .inl (fun _ => 0)))]) [0, 1, 9, 20, 2, 3, 4, 5, 6, 7, 8, 10, 11, 12, 13, 14, 15, 16, 17, 18, 19, 21, 22, 23, 24, 25, 26, 27, 28, 29, 30, 31, 32, 33, 34, 35, 36, 37, 38, 39, 40, 41, 42, 43, 44, 45, 46, 47, 48, 49, 50, 51, 52, 53, 54, 55, 56, 57] (by decide) rfl
  obtain ⟨ad, had⟩ : ∃ ad : Nat → Nat, ad = fun p => ([qX, uX 0, uX 1, uX 2, uX 10, uX 11, uX 12, uX 13, uX 14, uX 15, uX 16, uX 20, uX 21, uX 22, uX 23, uX 24, uX 25, uX 26, uX 27, uX 28, uX 29, uX 40, uX 41, uX 42, uX 43, uX 44, uX 45, uX 46, uX 3, uX 4, uX 5, uX 6, uX 7, uX 8, qM, uM 0, uM 1, uM 2, uM 3, uM 4, uM 5, uM 6, uM 7, uM 8, uM 9, uM 10, uM 11, uM 12, uM 13, uM 14, uM 15, uM 16, uM 17, uM 18, uM 19, uM 20, uM 21, uM 22, b] : List Nat).getD p 0 := ⟨_, rfl⟩
  have a0 : ad 0 = qX := by rw [had]; rfl
  have a1 : ad 1 = uX 0 := by rw [had]; rfl
  have a2 : ad 2 = uX 1 := by rw [had]; rfl
  have a3 : ad 3 = uX 2 := by rw [had]; rfl
  have a4 : ad 4 = uX 10 := by rw [had]; rfl
  have a5 : ad 5 = uX 11 := by rw [had]; rfl
  have a6 : ad 6 = uX 12 := by rw [had]; rfl
  have a7 : ad 7 = uX 13 := by rw [had]; rfl
  have a8 : ad 8 = uX 14 := by rw [had]; rfl
  have a9 : ad 9 = uX 15 := by rw [had]; rfl
  have a10 : ad 10 = uX 16 := by rw [had]; rfl
  have a11 : ad 11 = uX 20 := by rw [had]; rfl
  have a12 : ad 12 = uX 21 := by rw [had]; rfl
  have a13 : ad 13 = uX 22 := by rw [had]; rfl
  have a14 : ad 14 = uX 23 := by rw [had]; rfl
  have a15 : ad 15 = uX 24 := by rw [had]; rfl
  have a16 : ad 16 = uX 25 := by rw [had]; rfl
  have a17 : ad 17 = uX 26 := by rw [had]; rfl
  have a18 : ad 18 = uX 27 := by rw [had]; rfl
  have a19 : ad 19 = uX 28 := by rw [had]; rfl
  have a20 : ad 20 = uX 29 := by rw [had]; rfl
  have a21 : ad 21 = uX 40 := by rw [had]; rfl
  have a22 : ad 22 = uX 41 := by rw [had]; rfl
  have a23 : ad 23 = uX 42 := by rw [had]; rfl
  have a24 : ad 24 = uX 43 := by rw [had]; rfl
  have a25 : ad 25 = uX 44 := by rw [had]; rfl
  have a26 : ad 26 = uX 45 := by rw [had]; rfl
  have a27 : ad 27 = uX 46 := by rw [had]; rfl
  have a28 : ad 28 = uX 3 := by rw [had]; rfl
  have a29 : ad 29 = uX 4 := by rw [had]; rfl
  have a30 : ad 30 = uX 5 := by rw [had]; rfl
  have a31 : ad 31 = uX 6 := by rw [had]; rfl
  have a32 : ad 32 = uX 7 := by rw [had]; rfl
  have a33 : ad 33 = uX 8 := by rw [had]; rfl
  have a34 : ad 34 = qM := by rw [had]; rfl
  have a35 : ad 35 = uM 0 := by rw [had]; rfl
  have a36 : ad 36 = uM 1 := by rw [had]; rfl
  have a37 : ad 37 = uM 2 := by rw [had]; rfl
  have a38 : ad 38 = uM 3 := by rw [had]; rfl
  have a39 : ad 39 = uM 4 := by rw [had]; rfl
  have a40 : ad 40 = uM 5 := by rw [had]; rfl
  have a41 : ad 41 = uM 6 := by rw [had]; rfl
  have a42 : ad 42 = uM 7 := by rw [had]; rfl
  have a43 : ad 43 = uM 8 := by rw [had]; rfl
  have a44 : ad 44 = uM 9 := by rw [had]; rfl
  have a45 : ad 45 = uM 10 := by rw [had]; rfl
  have a46 : ad 46 = uM 11 := by rw [had]; rfl
  have a47 : ad 47 = uM 12 := by rw [had]; rfl
  have a48 : ad 48 = uM 13 := by rw [had]; rfl
  have a49 : ad 49 = uM 14 := by rw [had]; rfl
  have a50 : ad 50 = uM 15 := by rw [had]; rfl
  have a51 : ad 51 = uM 16 := by rw [had]; rfl
  have a52 : ad 52 = uM 17 := by rw [had]; rfl
  have a53 : ad 53 = uM 18 := by rw [had]; rfl
  have a54 : ad 54 = uM 19 := by rw [had]; rfl
  have a55 : ad 55 = uM 20 := by rw [had]; rfl
  have a56 : ad 56 = uM 21 := by rw [had]; rfl
  have a57 : ad 57 = uM 22 := by rw [had]; rfl
  have a58 : ad 58 = b := by rw [had]; rfl
  have hP9 : va_P D gx_cl (gx_ws ad cA (fun _ _ => 0)) H := by
    rw [gx_ws_list, gx_row]
    simp only [a0, a1, a2, a3, a4, a5, a6, a7, a8, a9, a10, a11, a12, a13, a14, a15, a16, a17, a18, a19, a20, a21, a22, a23, a24, a25, a26, a27, a28, a29, a30, a31, a32, a33, a34, a35, a36, a37, a38, a39, a40, a41, a42, a43, a44, a45, a46, a47, a48, a49, a50, a51, a52, a53, a54, a55, a56, a57]
    exact hPo
  have hD9 : va_D (fun q : Nat => s.heap.size ≤ q) (gx_ws ad cA (fun _ _ => 0)) := by
    rw [gx_ws_list, gx_row]
    simp only [a0, a1, a2, a3, a4, a5, a6, a7, a8, a9, a10, a11, a12, a13, a14, a15, a16, a17, a18, a19, a20, a21, a22, a23, a24, a25, a26, a27, a28, a29, a30, a31, a32, a33, a34, a35, a36, a37, a38, a39, a40, a41, a42, a43, a44, a45, a46, a47, a48, a49, a50, a51, a52, a53, a54, a55, a56, a57]
    exact hDo
  have hl9 : lv_has ls 4 (gx_lv ad [.ref 58, .ref 0, .ref 34, .int (nI 0)]) := by
    have e1 : gx_lv ad [.ref 58, .ref 0, .ref 34, .int (nI 0)] = [(0, .ref (ad 58)), (1, .ref (ad 0)), (2, .ref (ad 34)), (3, .int (nI 0))] := rfl
    rw [e1, a58, a0, a34, nI_0]
    exact lv_sub hl [3, 2, 1, 0] rfl
  exact lw_loop (X := (l, D, ad, cA)) (Inv := Inv) ⟨C0, hK, a58, hL⟩ (hp (l, D, ad, cA)) (L + 1) 0 (fun _ _ => 0) (by omega) (by omega) h0 H _ ls hP9 hD9 hS hl9
end
section
/-! Small rows for the pure part. -/
theorem gz0 : (0 : Fin 4).val = 0 := rfl
theorem gz1 : (1 : Fin 4).val = 1 := rfl
theorem gz2 : (2 : Fin 4).val = 2 := rfl
theorem gz3 : (3 : Fin 4).val = 3 := rfl
theorem gb0 : gx_bl 0 = True := eq_true (Or.inl rfl)
theorem gb1 : gx_bl 1 = True := eq_true (Or.inr rfl)
theorem i_lt {x y : Int32} : x < y ↔ x.toInt < y.toInt := Int32.lt_iff_toInt_lt
theorem i_le {x y : Int32} : x ≤ y ↔ x.toInt ≤ y.toInt := Int32.le_iff_toInt_le
theorem i_eq {x y : Int32} : x = y ↔ x.toInt = y.toInt := Int32.toInt_inj.symm
theorem i_lo (x : Int32) : -2147483648 ≤ x.toInt := Int32.le_toInt x
theorem i_hi (x : Int32) : x.toInt < 2147483648 := Int32.toInt_lt x
theorem i_bm {z : Int} (h1 : -2147483648 ≤ z) (h2 : z < 2147483648) : z.bmod 4294967296 = z := by
  rw [Int.bmod_eq_of_le] <;> omega
theorem i_add {x y : Int32} (h1 : -2147483648 ≤ x.toInt + y.toInt) (h2 : x.toInt + y.toInt < 2147483648) : (x + y).toInt = x.toInt + y.toInt := by
  rw [Int32.toInt_add]
  exact i_bm h1 h2
theorem i_sub {x y : Int32} (h1 : -2147483648 ≤ x.toInt - y.toInt) (h2 : x.toInt - y.toInt < 2147483648) : (x - y).toInt = x.toInt - y.toInt := by
  rw [Int32.toInt_sub]
  exact i_bm h1 h2
theorem i_mul {x y : Int32} (h1 : -2147483648 ≤ x.toInt * y.toInt) (h2 : x.toInt * y.toInt < 2147483648) : (x * y).toInt = x.toInt * y.toInt := by
  rw [Int32.toInt_mul]
  exact i_bm h1 h2
theorem i_cl (x : Int32) : x.toNatClampNeg = x.toInt.toNat := rfl
theorem i_nat {x : Int32} (h : 0 ≤ x.toInt) : x = nI x.toInt.toNat := by
  rw [i_eq, nI_toInt (by have := i_hi x; omega)]
  omega
theorem i_nI {n : Nat} (h : n < 2147483648) : (nI n).toInt = (n : Int) := nI_toInt (by omega)
theorem i_nc {n : Nat} (h : n < 2147483648) : (nI n).toNatClampNeg = n := nI_clamp (by omega)
theorem gx_w_np {M : gx_M} {p k q j : Nat} {x : Int32} (h : q ≠ p) : gx_w M p k x q j = M q j := by simp [gx_w, h]
theorem gx_w_p {M : gx_M} {p k j : Nat} {x : Int32} : gx_w M p k x p j = if j = k then x else M p j := by simp [gx_w]
theorem gq2 : ((2 : Nat) : Int) = 2 := rfl
theorem gq10 : ((10 : Nat) : Int) = 10 := rfl
theorem gq12 : ((12 : Nat) : Int) = 12 := rfl
theorem gq22 : ((22 : Nat) : Int) = 22 := rfl
theorem gq24 : ((24 : Nat) : Int) = 24 := rfl
theorem gq40 : ((40 : Nat) : Int) = 40 := rfl
theorem gq50 : ((50 : Nat) : Int) = 50 := rfl
theorem gq61 : ((61 : Nat) : Int) = 61 := rfl
theorem gq80 : ((80 : Nat) : Int) = 80 := rfl
theorem gq500 : ((500 : Nat) : Int) = 500 := rfl
theorem gq576 : ((576 : Nat) : Int) = 576 := rfl
theorem gq800 : ((800 : Nat) : Int) = 800 := rfl
theorem gq924 : ((924 : Nat) : Int) = 924 := rfl
end
section
/-! Finite sums of whole numbers, circulations, the cut. Nothing of the machine. -/
def sm_ : Nat → (Nat → Int) → Int
  | 0, _ => 0
  | k + 1, f => sm_ k f + f k
theorem sm_0 (f : Nat → Int) : sm_ 0 f = 0 := rfl
theorem sm_s (n : Nat) (f : Nat → Int) : sm_ (n + 1) f = sm_ n f + f n := rfl
theorem sm_congr {f g : Nat → Int} : ∀ {n : Nat}, (∀ i, i < n → f i = g i) → sm_ n f = sm_ n g
  | 0, _ => rfl
  | n + 1, h => by rw [sm_s, sm_s, sm_congr (fun i hi => h i (by omega)), h n (by omega)]
theorem sm_add (f g : Nat → Int) : ∀ n : Nat, sm_ n (fun i => f i + g i) = sm_ n f + sm_ n g
  | 0 => rfl
  | n + 1 => by rw [sm_s, sm_s, sm_s, sm_add f g n]; omega
theorem sm_sub (f g : Nat → Int) : ∀ n : Nat, sm_ n (fun i => f i - g i) = sm_ n f - sm_ n g
  | 0 => rfl
  | n + 1 => by rw [sm_s, sm_s, sm_s, sm_sub f g n]; omega
theorem sm_mul (c : Int) (f : Nat → Int) : ∀ n : Nat, sm_ n (fun i => c * f i) = c * sm_ n f
  | 0 => by simp [sm_]
  | n + 1 => by rw [sm_s, sm_s, sm_mul c f n, Int.mul_add]
theorem sm_z : ∀ n : Nat, sm_ n (fun _ => 0) = 0
  | 0 => rfl
  | n + 1 => by rw [sm_s, sm_z n]; rfl
theorem sm_z' {f : Nat → Int} {n : Nat} (h : ∀ i, i < n → f i = 0) : sm_ n f = 0 := by
  rw [sm_congr h, sm_z]
theorem sm_swap (f : Nat → Nat → Int) (k : Nat) : ∀ n : Nat, sm_ n (fun i => sm_ k (fun j => f i j)) = sm_ k (fun j => sm_ n (fun i => f i j))
  | 0 => (sm_z k).symm
  | n + 1 => by
    rw [sm_s, sm_swap f k n, ← sm_add]
    rfl
theorem sm_one (f : Nat → Int) (k : Nat) : ∀ n : Nat, sm_ n (fun i => if i = k then f i else 0) = if k < n then f k else 0
  | 0 => by simp [sm_]
  | n + 1 => by
    rw [sm_s, sm_one f k n]
    by_cases h : n = k
    · subst h
      simp
    · by_cases h2 : k < n
      · rw [if_pos h2, if_neg h, if_pos (by omega)]; omega
      · rw [if_neg h2, if_neg h, if_neg (by omega)]; rfl
theorem sm_nonneg {f : Nat → Int} : ∀ {n : Nat}, (∀ i, i < n → 0 ≤ f i) → 0 ≤ sm_ n f
  | 0, _ => Int.le_refl 0
  | n + 1, h => by
    have h1 := sm_nonneg (n := n) (fun i hi => h i (by omega))
    have h2 := h n (by omega)
    rw [sm_s]; omega
theorem sm_le {f g : Nat → Int} : ∀ {n : Nat}, (∀ i, i < n → f i ≤ g i) → sm_ n f ≤ sm_ n g
  | 0, _ => Int.le_refl 0
  | n + 1, h => by
    have h1 := sm_le (n := n) (fun i hi => h i (by omega))
    have h2 := h n (by omega)
    rw [sm_s, sm_s]; omega
theorem sm_each {f : Nat → Int} : ∀ {n : Nat}, (∀ i, i < n → 0 ≤ f i) → sm_ n f ≤ 0 → ∀ i, i < n → f i = 0
  | 0, _, _, i, hi => by omega
  | n + 1, h, h0, i, hi => by
    have h1 := sm_nonneg (n := n) (fun i hi => h i (by omega))
    have h2 := h n (by omega)
    rw [sm_s] at h0
    by_cases hin : i = n
    · subst hin; omega
    · exact sm_each (n := n) (fun i hi => h i (by omega)) (by omega) i (by omega)
/-- all terms but one are at least 0, the sum is 0: that one is at most 0 -/
theorem sm_but {f : Nat → Int} {a : Nat} : ∀ {n : Nat}, a < n → (∀ i, i < n → i ≠ a → 0 ≤ f i) → f a ≤ sm_ n f
  | 0, h, _ => by omega
  | n + 1, h, hp => by
    rw [sm_s]
    by_cases hn : n = a
    · subst hn
      have := sm_nonneg (n := n) (f := f) (fun i hi => hp i (by omega) (by omega))
      omega
    · have h1 := sm_but (n := n) (f := f) (a := a) (by omega) (fun i hi => hp i (by omega))
      have h2 := hp n (by omega) hn
      omega
theorem sm_up {f : Nat → Int} {k : Nat} {x : Int} : ∀ {n : Nat}, k < n → sm_ n (fun i => if i = k then x else f i) = sm_ n f - f k + x
  | 0, h => by omega
  | n + 1, h => by
    rw [sm_s, sm_s]
    by_cases hn : n = k
    · subst hn
      rw [if_pos rfl, sm_congr (g := f) (fun i hi => if_neg (by omega))]
      omega
    · rw [if_neg hn, sm_up (n := n) (by omega)]
      omega
/-- what an edge brings to a vertex, less what it takes from there -/
def nt_c (fr to : Nat → Nat) (e v : Nat) : Int := (if to e = v then 1 else 0) - (if fr e = v then 1 else 0)
/-- what comes to v less what goes -/
def nt_d (n : Nat) (fr to : Nat → Nat) (g : Nat → Int) (v : Nat) : Int := sm_ n (fun e => nt_c fr to e v * g e)
def nt_in (S : Nat → Bool) (v : Nat) : Int := if S v = true then 1 else 0
theorem nt_pick (V : Nat) (S : Nat → Bool) {u : Nat} (hu : u < V) : sm_ V (fun v => nt_in S v * (if u = v then 1 else 0)) = nt_in S u := by
  have h := sm_one (nt_in S) u V
  rw [if_pos hu] at h
  rw [← h]
  refine sm_congr (fun i _ => ?_)
  by_cases hi : i = u
  · subst hi; simp
  · rw [if_neg hi, if_neg (fun z => hi z.symm)]; simp
/-- the sum of what comes less what goes over a set is what comes into the set less what goes out -/
theorem nt_cut {n V : Nat} {fr to : Nat → Nat} (d : Nat → Int) (S : Nat → Bool) (hf : ∀ e, e < n → fr e < V) (ht : ∀ e, e < n → to e < V) :
    sm_ V (fun v => nt_in S v * nt_d n fr to d v) = sm_ n (fun e => (nt_in S (to e) - nt_in S (fr e)) * d e) := by
  have h1 : sm_ V (fun v => nt_in S v * nt_d n fr to d v) = sm_ V (fun v => sm_ n (fun e => nt_in S v * (nt_c fr to e v * d e))) :=
    sm_congr (fun v _ => by unfold nt_d; rw [sm_mul])
  rw [h1, sm_swap]
  refine sm_congr (fun e he => ?_)
  have h2 : sm_ V (fun v => nt_in S v * (nt_c fr to e v * d e)) = sm_ V (fun v => d e * (nt_in S v * (if to e = v then 1 else 0) - nt_in S v * (if fr e = v then 1 else 0))) :=
    sm_congr (fun v _ => by unfold nt_c; rw [← Int.mul_sub, Int.mul_comm (d e), Int.mul_assoc])
  rw [h2, sm_mul, sm_sub, nt_pick V S (ht e he), nt_pick V S (hf e he), Int.mul_comm]
theorem nt_d_sub (n : Nat) (fr to : Nat → Nat) (g h : Nat → Int) (v : Nat) : nt_d n fr to (fun e => g e - h e) v = nt_d n fr to g v - nt_d n fr to h v := by
  unfold nt_d
  rw [← sm_sub]
  exact sm_congr (fun e _ => by rw [Int.mul_sub])
/-- THE CUT: two circulations differ by nothing over any set -/
theorem nt_same {n V : Nat} {fr to : Nat → Nat} {g h : Nat → Int} (S : Nat → Bool) (hf : ∀ e, e < n → fr e < V) (ht : ∀ e, e < n → to e < V)
    (hg : ∀ v, v < V → nt_d n fr to g v = 0) (hh : ∀ v, v < V → nt_d n fr to h v = 0) :
    sm_ n (fun e => (nt_in S (to e) - nt_in S (fr e)) * (h e - g e)) = 0 := by
  rw [← nt_cut (fun e => h e - g e) S hf ht]
  exact sm_z' (fun v hv => by rw [nt_d_sub, hg v hv, hh v hv]; simp)
/-- no edge but a leads out of S with room left, none into S that can be lowered: another circulation has no more on a, which leads into S -/
theorem nt_most {n V : Nat} {fr to : Nat → Nat} {g h : Nat → Int} (S : Nat → Bool) (hf : ∀ e, e < n → fr e < V) (ht : ∀ e, e < n → to e < V)
    (hg : ∀ v, v < V → nt_d n fr to g v = 0) (hh : ∀ v, v < V → nt_d n fr to h v = 0) {a : Nat} (ha : a < n) (haf : S (fr a) = false) (hat : S (to a) = true)
    (hout : ∀ e, e < n → e ≠ a → S (fr e) = true → S (to e) = false → h e ≤ g e) (hin : ∀ e, e < n → e ≠ a → S (fr e) = false → S (to e) = true → g e ≤ h e) : h a ≤ g a := by
  have h0 := nt_same S hf ht hg hh
  have h1 := sm_but (f := fun e => (nt_in S (to e) - nt_in S (fr e)) * (h e - g e)) ha (fun e he hne => ?_)
  · rw [h0] at h1
    simp only [nt_in, haf, hat] at h1
    simp at h1
    omega
  · have o := hout e he hne
    have i := hin e he hne
    simp only [nt_in]
    cases hs : S (fr e) <;> cases hs2 : S (to e)
    · simp
    · have := i hs hs2; simp; omega
    · have := o hs hs2; simp; omega
    · simp
/-- the same with a leading out of S: another circulation has no less on a -/
theorem nt_least {n V : Nat} {fr to : Nat → Nat} {g h : Nat → Int} (S : Nat → Bool) (hf : ∀ e, e < n → fr e < V) (ht : ∀ e, e < n → to e < V)
    (hg : ∀ v, v < V → nt_d n fr to g v = 0) (hh : ∀ v, v < V → nt_d n fr to h v = 0) {a : Nat} (ha : a < n) (haf : S (fr a) = true) (hat : S (to a) = false)
    (hout : ∀ e, e < n → e ≠ a → S (fr e) = true → S (to e) = false → h e ≤ g e) (hin : ∀ e, e < n → e ≠ a → S (fr e) = false → S (to e) = true → g e ≤ h e) : g a ≤ h a := by
  have h0 := nt_same S hf ht hg hh
  have h1 := sm_but (f := fun e => (nt_in S (to e) - nt_in S (fr e)) * (h e - g e)) ha (fun e he hne => ?_)
  · rw [h0] at h1
    simp only [nt_in, haf, hat] at h1
    simp at h1
    omega
  · have o := hout e he hne
    have i := hin e he hne
    simp only [nt_in]
    cases hs : S (fr e) <;> cases hs2 : S (to e)
    · simp
    · have := i hs hs2; simp; omega
    · have := o hs hs2; simp; omega
    · simp
end
section
/-! The graph: what the two objects hold, and the calls that change it. -/
/-- the graph of the object -/
def gg_W (M : gx_M) (n m : Nat) : Prop := M 1 7 = nI n ∧ M 1 8 = nI m ∧ n ≤ 10 ∧ m ≤ 40 ∧
  (∀ v, v < n → 0 ≤ (M 4 v).toInt ∧ (M 4 v).toInt ≤ 2 ∧ -1 ≤ (M 5 v).toInt ∧ (M 5 v).toInt ≤ 100000) ∧
  (∀ k, k < m → 0 ≤ (M 6 k).toInt ∧ (M 6 k).toInt < n ∧ 0 ≤ (M 7 k).toInt ∧ (M 7 k).toInt < n ∧ (M 6 k).toInt ≠ (M 7 k).toInt ∧ 0 ≤ (M 8 k).toInt ∧ (M 8 k).toInt ≤ (M 9 k).toInt ∧ (M 9 k).toInt ≤ 1000 ∧ gx_bl (M 10 k)) ∧
  (M 1 9).toInt = sm_ m (fun k => if M 10 k = 0 then 1 else 0)
/-- the reference holds the same -/
def gg_R (M : gx_M) (n m : Nat) : Prop := M 34 0 = nI n ∧ M 34 3 = nI m ∧ (∀ v, v < n → M 35 v = M 4 v ∧ M 36 v = M 5 v) ∧
  (∀ k, k < m → M 37 k = M 6 k ∧ M 38 k = M 7 k ∧ M 39 k = M 8 k ∧ M 40 k = M 9 k ∧ M 41 k = (if M 10 k = 0 then 1 else 0))
def gg_I (CC RC : gx_M → Prop) (M : gx_M) : Prop := (∃ n m : Nat, gg_W M n m ∧ gg_R M n m) ∧ CC M ∧ RC M
def gg_C0 (CC : gx_M → Prop) : Prop := ∀ M : gx_M, M 0 8 = 0 → M 0 9 = 0 → M 0 10 = 0 → M 32 0 = 0 → M 32 1 = 0 → CC M
def gg_R0 (RC : gx_M → Prop) : Prop := ∀ M : gx_M, M 34 9 = 0 → RC M
/-- forget() -/
def gg_fg (M : gx_M) : gx_M := gx_w (gx_w (gx_w (gx_w (gx_w M 0 10 0) 32 0 0) 32 1 0) 0 8 0) 0 9 0
theorem gg_fg_o {M : gx_M} {p j : Nat} (h0 : p ≠ 0) (h32 : p ≠ 32) : gg_fg M p j = M p j := by
  unfold gg_fg
  rw [gx_w_np h0, gx_w_np h0, gx_w_np h32, gx_w_np h32, gx_w_np h0]
set_option maxRecDepth 100000 in
set_option maxHeartbeats 4000000 in
theorem sp_forget {X : gx_X} {M : gx_M} {P : Option Value → gx_M → Prop} (h : P none (gg_fg M)) : gx_C X 52 [.ref 0] M P := by
  unfold gx_C
  refine gx_wp_ok 60 false _ _ _ _ ?_
  simp (disch := first | decide | omega) only [gx_w_np, gx_w_p, gq2, gq10, gq12, gq22, gq24, gq40, gq50, gq61, gq80, gq500, gq576, gq800, gq924, gx_wp, gx_step, gx_cnd, gb0, gb1, Classical.not_not, List.getD_cons_zero, List.getD_cons_succ, List.set_cons_zero, List.set_cons_succ, List.length_cons, List.length_nil, Nat.reduceAdd, Nat.reduceLT, Nat.reduceLeDiff, Nat.reduceEqDiff, Bool.and_false, Bool.and_true, Bool.true_and, Bool.false_and, Bool.false_eq_true, if_false, if_true, ite_true, ite_false, Fin.isValue, Fin.val_zero, Fin.val_one, Fin.val_two, gz0, gz1, gz2, gz3, List.take_succ_cons, List.take_zero, List.drop_succ_cons, List.drop_zero, List.reverse_cons, List.reverse_nil, List.nil_append, List.cons_append, gx_nx, Int32.reduceToInt, Int.reduceToNat, Int.toNat_zero, Int.toNat_one, Int.reduceLT, Int.reduceLE, Int.ofNat_zero, Int.reduceNeg, Int.le_refl, and_self, List.getElem?_cons_zero, List.getElem?_cons_succ, true_and, and_true, Nat.reduceSub, List.replicate, List.append_nil, Nat.reduceLeDiff, Nat.le_add_left, Nat.zero_le, Nat.zero_add, gf3_131, gf3_156, gf3_159, gf3_39, gk_iconst_0, gk_iconst_1, gn52, gr52, gt3_10, gt3_8, gt3_9, gv52, gi52_0, gi52_1, gi52_2, gi52_5, gi52_6, gi52_9, gi52_10, gi52_11, gi52_12, gi52_13, gi52_16, gi52_17, gi52_18, gi52_19, gi52_20, gi52_21, gi52_24, gi52_25, gi52_26, gi52_29, gl0, gl1, gl2, gl3, gl4, gl5, gl6, gl7, gl8, gl9, gl10, gl11, gl12, gl13, gl14, gl15, gl16, gl17, gl18, gl19, gl20, gl21, gl22, gl23, gl24, gl25, gl26, gl27, gl28, gl29, gl30, gl31, gl32, gl33, gl34, gl35, gl36, gl37, gl38, gl39, gl40, gl41, gl42, gl43, gl44, gl45, gl46, gl47, gl48, gl49, gl50, gl51, gl52, gl53, gl54, gl55, gl56, gl57]
  exact h
set_option maxRecDepth 100000 in
set_option maxHeartbeats 4000000 in
theorem sp_hasNode {X : gx_X} {M : gx_M} {v : Int32} {n : Nat} {P : Option Value → gx_M → Prop} (hn : M 1 7 = nI n) (hn10 : n ≤ 10) (h1 : 0 ≤ v.toInt → v.toInt < n → P (some (.int 1)) M) (h0 : ¬ (0 ≤ v.toInt ∧ v.toInt < n) → P (some (.int 0)) M) : gx_C X 0 [.ref 1, .int v] M P := by
  unfold gx_C
  refine gx_wp_ok 60 false _ _ _ _ ?_
  simp (disch := first | decide | omega) only [gx_w_np, gx_w_p, gq2, gq10, gq12, gq22, gq24, gq40, gq50, gq61, gq80, gq500, gq576, gq800, gq924, gx_wp, gx_step, gx_cnd, gb0, gb1, Classical.not_not, List.getD_cons_zero, List.getD_cons_succ, List.set_cons_zero, List.set_cons_succ, List.length_cons, List.length_nil, Nat.reduceAdd, Nat.reduceLT, Nat.reduceLeDiff, Nat.reduceEqDiff, Bool.and_false, Bool.and_true, Bool.true_and, Bool.false_and, Bool.false_eq_true, if_false, if_true, ite_true, ite_false, Fin.isValue, Fin.val_zero, Fin.val_one, Fin.val_two, gz0, gz1, gz2, gz3, List.take_succ_cons, List.take_zero, List.drop_succ_cons, List.drop_zero, List.reverse_cons, List.reverse_nil, List.nil_append, List.cons_append, gx_nx, Int32.reduceToInt, Int.reduceToNat, Int.toNat_zero, Int.toNat_one, Int.reduceLT, Int.reduceLE, Int.ofNat_zero, Int.reduceNeg, Int.le_refl, and_self, List.getElem?_cons_zero, List.getElem?_cons_succ, true_and, and_true, Nat.reduceSub, List.replicate, List.append_nil, Nat.reduceLeDiff, Nat.le_add_left, Nat.zero_le, Nat.zero_add, gf0_34, gk_iconst_0, gk_iconst_1, gn0, gr0, gv0, gi0_0, gi0_1, gi0_4, gi0_5, gi0_6, gi0_9, gi0_12, gi0_13, gi0_16, gi0_17, gl0, gl1, gl2, gl3, gl4, gl5, gl6, gl7, gl8, gl9, gl10, gl11, gl12, gl13, gl14, gl15, gl16, gl17, gl18, gl19, gl20, gl21, gl22, gl23, gl24, gl25, gl26, gl27, gl28, gl29, gl30, gl31, gl32, gl33, gl34, gl35, gl36, gl37, gl38, gl39, gl40, gl41, gl42, gl43, gl44, gl45, gl46, gl47, gl48, gl49, gl50, gl51, gl52, gl53, gl54, gl55, gl56, gl57, hn, i_lt, i_le, i_nI]
  refine ⟨fun a => h0 (by omega), fun a => ⟨fun b => h0 (by omega), fun b => h1 (by omega) (by omega)⟩⟩
set_option maxRecDepth 100000 in
set_option maxHeartbeats 4000000 in
theorem sr_isNode {X : gx_X} {M : gx_M} {v : Int32} {n : Nat} {P : Option Value → gx_M → Prop} (hn : M 34 0 = nI n) (hn10 : n ≤ 10) (h1 : 0 ≤ v.toInt → v.toInt < n → P (some (.int 1)) M) (h0 : ¬ (0 ≤ v.toInt ∧ v.toInt < n) → P (some (.int 0)) M) : gx_C X 79 [.ref 34, .int v] M P := by
  unfold gx_C
  refine gx_wp_ok 60 false _ _ _ _ ?_
  simp (disch := first | decide | omega) only [gx_w_np, gx_w_p, gq2, gq10, gq12, gq22, gq24, gq40, gq50, gq61, gq80, gq500, gq576, gq800, gq924, gx_wp, gx_step, gx_cnd, gb0, gb1, Classical.not_not, List.getD_cons_zero, List.getD_cons_succ, List.set_cons_zero, List.set_cons_succ, List.length_cons, List.length_nil, Nat.reduceAdd, Nat.reduceLT, Nat.reduceLeDiff, Nat.reduceEqDiff, Bool.and_false, Bool.and_true, Bool.true_and, Bool.false_and, Bool.false_eq_true, if_false, if_true, ite_true, ite_false, Fin.isValue, Fin.val_zero, Fin.val_one, Fin.val_two, gz0, gz1, gz2, gz3, List.take_succ_cons, List.take_zero, List.drop_succ_cons, List.drop_zero, List.reverse_cons, List.reverse_nil, List.nil_append, List.cons_append, gx_nx, Int32.reduceToInt, Int.reduceToNat, Int.toNat_zero, Int.toNat_one, Int.reduceLT, Int.reduceLE, Int.ofNat_zero, Int.reduceNeg, Int.le_refl, and_self, List.getElem?_cons_zero, List.getElem?_cons_succ, true_and, and_true, Nat.reduceSub, List.replicate, List.append_nil, Nat.reduceLeDiff, Nat.le_add_left, Nat.zero_le, Nat.zero_add, gf4_91, gk_iconst_0, gk_iconst_1, gn79, gr79, gv79, gi79_0, gi79_1, gi79_4, gi79_5, gi79_6, gi79_9, gi79_12, gi79_13, gi79_16, gi79_17, gl0, gl1, gl2, gl3, gl4, gl5, gl6, gl7, gl8, gl9, gl10, gl11, gl12, gl13, gl14, gl15, gl16, gl17, gl18, gl19, gl20, gl21, gl22, gl23, gl24, gl25, gl26, gl27, gl28, gl29, gl30, gl31, gl32, gl33, gl34, gl35, gl36, gl37, gl38, gl39, gl40, gl41, gl42, gl43, gl44, gl45, gl46, gl47, gl48, gl49, gl50, gl51, gl52, gl53, gl54, gl55, gl56, gl57, hn, i_lt, i_le, i_nI]
  refine ⟨fun a => h0 (by omega), fun a => ⟨fun b => h0 (by omega), fun b => h1 (by omega) (by omega)⟩⟩
set_option maxRecDepth 100000 in
set_option maxHeartbeats 4000000 in
theorem sp_hasArc {X : gx_X} {M : gx_M} {v : Int32} {m : Nat} {P : Option Value → gx_M → Prop} (hm : M 1 8 = nI m) (hm40 : m ≤ 40) (h1 : 0 ≤ v.toInt → v.toInt < m → M 10 v.toInt.toNat = 0 → P (some (.int 1)) M) (h0 : ¬ (0 ≤ v.toInt ∧ v.toInt < m ∧ M 10 v.toInt.toNat = 0) → P (some (.int 0)) M) : gx_C X 1 [.ref 1, .int v] M P := by
  unfold gx_C
  refine gx_wp_ok 60 false _ _ _ _ ?_
  simp (disch := first | decide | omega) only [gx_w_np, gx_w_p, gq2, gq10, gq12, gq22, gq24, gq40, gq50, gq61, gq80, gq500, gq576, gq800, gq924, gx_wp, gx_step, gx_cnd, gb0, gb1, Classical.not_not, List.getD_cons_zero, List.getD_cons_succ, List.set_cons_zero, List.set_cons_succ, List.length_cons, List.length_nil, Nat.reduceAdd, Nat.reduceLT, Nat.reduceLeDiff, Nat.reduceEqDiff, Bool.and_false, Bool.and_true, Bool.true_and, Bool.false_and, Bool.false_eq_true, if_false, if_true, ite_true, ite_false, Fin.isValue, Fin.val_zero, Fin.val_one, Fin.val_two, gz0, gz1, gz2, gz3, List.take_succ_cons, List.take_zero, List.drop_succ_cons, List.drop_zero, List.reverse_cons, List.reverse_nil, List.nil_append, List.cons_append, gx_nx, Int32.reduceToInt, Int.reduceToNat, Int.toNat_zero, Int.toNat_one, Int.reduceLT, Int.reduceLE, Int.ofNat_zero, Int.reduceNeg, Int.le_refl, and_self, List.getElem?_cons_zero, List.getElem?_cons_succ, true_and, and_true, Nat.reduceSub, List.replicate, List.append_nil, Nat.reduceLeDiff, Nat.le_add_left, Nat.zero_le, Nat.zero_add, gf0_30, gf0_38, gk_iconst_0, gk_iconst_1, gn1, gr1, gv1, gi1_0, gi1_1, gi1_4, gi1_5, gi1_6, gi1_9, gi1_12, gi1_13, gi1_16, gi1_17, gi1_18, gi1_21, gi1_22, gi1_25, gi1_26, gl0, gl1, gl2, gl3, gl4, gl5, gl6, gl7, gl8, gl9, gl10, gl11, gl12, gl13, gl14, gl15, gl16, gl17, gl18, gl19, gl20, gl21, gl22, gl23, gl24, gl25, gl26, gl27, gl28, gl29, gl30, gl31, gl32, gl33, gl34, gl35, gl36, gl37, gl38, gl39, gl40, gl41, gl42, gl43, gl44, gl45, gl46, gl47, gl48, gl49, gl50, gl51, gl52, gl53, gl54, gl55, gl56, gl57, hm, i_lt, i_le, i_nI]
  refine ⟨fun a => h0 (by omega), fun a => ⟨fun b => h0 (by omega), fun b => ⟨by omega, fun c => h0 (fun z => c (by rw [z.2.2])), fun c => h1 (by omega) (by omega) ?_⟩⟩⟩
  exact i_eq.mpr c
set_option maxRecDepth 100000 in
set_option maxHeartbeats 4000000 in
theorem sr_isArc {X : gx_X} {M : gx_M} {v : Int32} {m : Nat} {P : Option Value → gx_M → Prop} (hm : M 34 3 = nI m) (hm40 : m ≤ 40) (h1 : 0 ≤ v.toInt → v.toInt < m → ¬ M 41 v.toInt.toNat = 0 → P (some (.int 1)) M) (h0 : ¬ (0 ≤ v.toInt ∧ v.toInt < m ∧ ¬ M 41 v.toInt.toNat = 0) → P (some (.int 0)) M) : gx_C X 80 [.ref 34, .int v] M P := by
  unfold gx_C
  refine gx_wp_ok 60 false _ _ _ _ ?_
  simp (disch := first | decide | omega) only [gx_w_np, gx_w_p, gq2, gq10, gq12, gq22, gq24, gq40, gq50, gq61, gq80, gq500, gq576, gq800, gq924, gx_wp, gx_step, gx_cnd, gb0, gb1, Classical.not_not, List.getD_cons_zero, List.getD_cons_succ, List.set_cons_zero, List.set_cons_succ, List.length_cons, List.length_nil, Nat.reduceAdd, Nat.reduceLT, Nat.reduceLeDiff, Nat.reduceEqDiff, Bool.and_false, Bool.and_true, Bool.true_and, Bool.false_and, Bool.false_eq_true, if_false, if_true, ite_true, ite_false, Fin.isValue, Fin.val_zero, Fin.val_one, Fin.val_two, gz0, gz1, gz2, gz3, List.take_succ_cons, List.take_zero, List.drop_succ_cons, List.drop_zero, List.reverse_cons, List.reverse_nil, List.nil_append, List.cons_append, gx_nx, Int32.reduceToInt, Int.reduceToNat, Int.toNat_zero, Int.toNat_one, Int.reduceLT, Int.reduceLE, Int.ofNat_zero, Int.reduceNeg, Int.le_refl, and_self, List.getElem?_cons_zero, List.getElem?_cons_succ, true_and, and_true, Nat.reduceSub, List.replicate, List.append_nil, Nat.reduceLeDiff, Nat.le_add_left, Nat.zero_le, Nat.zero_add, gf4_28, gf4_84, gk_iconst_0, gk_iconst_1, gn80, gr80, gv80, gi80_0, gi80_1, gi80_4, gi80_5, gi80_6, gi80_9, gi80_12, gi80_13, gi80_16, gi80_17, gi80_18, gi80_21, gi80_22, gi80_25, gi80_26, gl0, gl1, gl2, gl3, gl4, gl5, gl6, gl7, gl8, gl9, gl10, gl11, gl12, gl13, gl14, gl15, gl16, gl17, gl18, gl19, gl20, gl21, gl22, gl23, gl24, gl25, gl26, gl27, gl28, gl29, gl30, gl31, gl32, gl33, gl34, gl35, gl36, gl37, gl38, gl39, gl40, gl41, gl42, gl43, gl44, gl45, gl46, gl47, gl48, gl49, gl50, gl51, gl52, gl53, gl54, gl55, gl56, gl57, hm, i_lt, i_le, i_nI]
  trace_state
  sorry
set_option maxRecDepth 100000 in
set_option maxHeartbeats 4000000 in
theorem sp_addNode {X : gx_X} {M : gx_M} {n : Nat} {P : Option Value → gx_M → Prop} (hn : M 1 7 = nI n) (hn10 : n < 10) (h : P (some (.int (nI n))) (gx_w (gx_w (gx_w M 4 n 0) 5 n (-1)) 1 7 (nI (n + 1)))) : gx_C X 2 [.ref 1] M P := by
  unfold gx_C
  refine gx_wp_ok 60 false _ _ _ _ ?_
  simp (disch := first | decide | omega) only [gx_w_np, gx_w_p, gq2, gq10, gq12, gq22, gq24, gq40, gq50, gq61, gq80, gq500, gq576, gq800, gq924, gx_wp, gx_step, gx_cnd, gb0, gb1, Classical.not_not, List.getD_cons_zero, List.getD_cons_succ, List.set_cons_zero, List.set_cons_succ, List.length_cons, List.length_nil, Nat.reduceAdd, Nat.reduceLT, Nat.reduceLeDiff, Nat.reduceEqDiff, Bool.and_false, Bool.and_true, Bool.true_and, Bool.false_and, Bool.false_eq_true, if_false, if_true, ite_true, ite_false, Fin.isValue, Fin.val_zero, Fin.val_one, Fin.val_two, gz0, gz1, gz2, gz3, List.take_succ_cons, List.take_zero, List.drop_succ_cons, List.drop_zero, List.reverse_cons, List.reverse_nil, List.nil_append, List.cons_append, gx_nx, Int32.reduceToInt, Int.reduceToNat, Int.toNat_zero, Int.toNat_one, Int.reduceLT, Int.reduceLE, Int.ofNat_zero, Int.reduceNeg, Int.le_refl, and_self, List.getElem?_cons_zero, List.getElem?_cons_succ, true_and, and_true, Nat.reduceSub, List.replicate, List.append_nil, Nat.reduceLeDiff, Nat.le_add_left, Nat.zero_le, Nat.zero_add, gf0_15, gf0_34, gf0_9, gk_iconst_0, gk_iconst_1, gk_iconst_m1, gn2, gr2, gt0_7, gv2, gi2_0, gi2_1, gi2_4, gi2_5, gi2_8, gi2_9, gi2_10, gi2_11, gi2_14, gi2_15, gi2_18, gi2_19, gi2_20, gi2_21, gi2_22, gi2_25, gi2_26, gi2_27, gi2_30, gi2_31, gi2_34, gi2_35, gi2_36, gl0, gl1, gl2, gl3, gl4, gl5, gl6, gl7, gl8, gl9, gl10, gl11, gl12, gl13, gl14, gl15, gl16, gl17, gl18, gl19, gl20, gl21, gl22, gl23, gl24, gl25, gl26, gl27, gl28, gl29, gl30, gl31, gl32, gl33, gl34, gl35, gl36, gl37, gl38, gl39, gl40, gl41, gl42, gl43, gl44, gl45, gl46, gl47, gl48, gl49, gl50, gl51, gl52, gl53, gl54, gl55, gl56, gl57, hn, i_nI]
  trace_state
  sorry
set_option maxRecDepth 100000 in
set_option maxHeartbeats 4000000 in
theorem sp_node0 {X : gx_X} {CC RC : gx_M → Prop} (hC : gg_C0 CC) (hR : gg_R0 RC) : lw_pair X (gg_I CC RC) 31 82 0 := by
  intro M as hl hI
  obtain rfl : as = [] := List.eq_nil_of_length_eq_zero hl
  obtain ⟨⟨n, m, hW, hG⟩, hCC, hRC⟩ := hI
  obtain ⟨w1, w2, w3, w4, w5, w6, w7⟩ := id hW
  obtain ⟨r1, r2, r3, r4⟩ := id hG
  show gx_C X 31 [.ref 0] M _
  unfold gx_C
  refine gx_wp_ok 60 false _ _ _ _ ?_
  simp (disch := first | decide | omega) only [gx_w_np, gx_w_p, gq2, gq10, gq12, gq22, gq24, gq40, gq50, gq61, gq80, gq500, gq576, gq800, gq924, gx_wp, gx_step, gx_cnd, gb0, gb1, Classical.not_not, List.getD_cons_zero, List.getD_cons_succ, List.set_cons_zero, List.set_cons_succ, List.length_cons, List.length_nil, Nat.reduceAdd, Nat.reduceLT, Nat.reduceLeDiff, Nat.reduceEqDiff, Bool.and_false, Bool.and_true, Bool.true_and, Bool.false_and, Bool.false_eq_true, if_false, if_true, ite_true, ite_false, Fin.isValue, Fin.val_zero, Fin.val_one, Fin.val_two, gz0, gz1, gz2, gz3, List.take_succ_cons, List.take_zero, List.drop_succ_cons, List.drop_zero, List.reverse_cons, List.reverse_nil, List.nil_append, List.cons_append, gx_nx, Int32.reduceToInt, Int.reduceToNat, Int.toNat_zero, Int.toNat_one, Int.reduceLT, Int.reduceLE, Int.ofNat_zero, Int.reduceNeg, Int.le_refl, and_self, List.getElem?_cons_zero, List.getElem?_cons_succ, true_and, and_true, Nat.reduceSub, List.replicate, List.append_nil, Nat.reduceLeDiff, Nat.le_add_left, Nat.zero_le, Nat.zero_add, gf3_12, gf3_46, gk_bipush_10, gk_bipush_m4, gm3_50, gm3_53, gn2, gn31, gn52, gr2, gr31, gr52, gv31, gi31_0, gi31_1, gi31_4, gi31_7, gi31_9, gi31_12, gi31_14, gi31_15, gi31_16, gi31_19, gi31_20, gi31_23, gi31_26, gl0, gl1, gl2, gl3, gl4, gl5, gl6, gl7, gl8, gl9, gl10, gl11, gl12, gl13, gl14, gl15, gl16, gl17, gl18, gl19, gl20, gl21, gl22, gl23, gl24, gl25, gl26, gl27, gl28, gl29, gl30, gl31, gl32, gl33, gl34, gl35, gl36, gl37, gl38, gl39, gl40, gl41, gl42, gl43, gl44, gl45, gl46, gl47, gl48, gl49, gl50, gl51, gl52, gl53, gl54, gl55, gl56, gl57, w1, i_lt, i_nI]
  trace_state
  sorry
end
