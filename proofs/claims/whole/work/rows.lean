section
-- ===== PART A: goes FIRST, ahead of the names: the tables' words, and 'selects' of the private methods out of them =====
/-- a private method of a class that the tables say can be made, by its rows of tables_1 -/
def lw_okq (q : MethodName × Nat) : Prop := (q.1.cls ≠ "java/lang/invoke/MethodHandle" ∧ q.1.cls ≠ "java/lang/invoke/VarHandle") ∧ Cond.instantiable q.1.cls q.2 ∈ tables_1 ∧ Cond.privateMethod q.1 ∈ tables_1 ∧ Cond.instanceMethod q.1 ∈ tables_1
theorem lw_p0 : lw_okq (⟨"GreatProbes$Net", "readItem", "(LGreatProbes$Text;)Z"⟩, 4) := ⟨⟨by decide +kernel, by decide +kernel⟩, List.mem_of_getElem? (i := 42) (by decide +kernel), List.mem_of_getElem? (i := 235) (by decide +kernel), List.mem_of_getElem? (i := 236) (by decide +kernel)⟩
theorem lw_p1 : lw_okq (⟨"GreatProbes$Net", "addWay", "()Z"⟩, 4) := ⟨⟨by decide +kernel, by decide +kernel⟩, List.mem_of_getElem? (i := 42) (by decide +kernel), List.mem_of_getElem? (i := 246) (by decide +kernel), List.mem_of_getElem? (i := 247) (by decide +kernel)⟩
theorem lw_p2 : lw_okq (⟨"GreatProbes$Net", "readHop", "(LGreatProbes$Text;)Z"⟩, 4) := ⟨⟨by decide +kernel, by decide +kernel⟩, List.mem_of_getElem? (i := 42) (by decide +kernel), List.mem_of_getElem? (i := 255) (by decide +kernel), List.mem_of_getElem? (i := 256) (by decide +kernel)⟩
theorem lw_p3 : lw_okq (⟨"GreatProbes$Net", "readLoss", "(LGreatProbes$Text;)Z"⟩, 4) := ⟨⟨by decide +kernel, by decide +kernel⟩, List.mem_of_getElem? (i := 42) (by decide +kernel), List.mem_of_getElem? (i := 281) (by decide +kernel), List.mem_of_getElem? (i := 282) (by decide +kernel)⟩
theorem lw_p4 : lw_okq (⟨"GreatProbes$Net", "readRule", "(LGreatProbes$Text;)Z"⟩, 4) := ⟨⟨by decide +kernel, by decide +kernel⟩, List.mem_of_getElem? (i := 42) (by decide +kernel), List.mem_of_getElem? (i := 285) (by decide +kernel), List.mem_of_getElem? (i := 286) (by decide +kernel)⟩
theorem lw_p5 : lw_okq (⟨"GreatProbes", "remember", "()V"⟩, 8) := ⟨⟨by decide +kernel, by decide +kernel⟩, List.mem_of_getElem? (i := 14) (by decide +kernel), List.mem_of_getElem? (i := 372) (by decide +kernel), List.mem_of_getElem? (i := 373) (by decide +kernel)⟩
theorem lw_p6 : lw_okq (⟨"GreatProbes$Way", "checkLow", "(LGreatProbes$Rules;)V"⟩, 15) := ⟨⟨by decide +kernel, by decide +kernel⟩, List.mem_of_getElem? (i := 84) (by decide +kernel), List.mem_of_getElem? (i := 388) (by decide +kernel), List.mem_of_getElem? (i := 389) (by decide +kernel)⟩
theorem lw_p7 : lw_okq (⟨"GreatProbes$Way", "miss", "(LGreatProbes$Rules;)V"⟩, 15) := ⟨⟨by decide +kernel, by decide +kernel⟩, List.mem_of_getElem? (i := 84) (by decide +kernel), List.mem_of_getElem? (i := 423) (by decide +kernel), List.mem_of_getElem? (i := 424) (by decide +kernel)⟩
theorem lw_p8 : lw_okq (⟨"GreatProbes$Way", "lowerHigh", "(I)V"⟩, 15) := ⟨⟨by decide +kernel, by decide +kernel⟩, List.mem_of_getElem? (i := 84) (by decide +kernel), List.mem_of_getElem? (i := 427) (by decide +kernel), List.mem_of_getElem? (i := 428) (by decide +kernel)⟩
theorem lw_p9 : lw_okq (⟨"GreatProbes$Way", "search", "(LGreatProbes$Rules;)V"⟩, 15) := ⟨⟨by decide +kernel, by decide +kernel⟩, List.mem_of_getElem? (i := 84) (by decide +kernel), List.mem_of_getElem? (i := 431) (by decide +kernel), List.mem_of_getElem? (i := 432) (by decide +kernel)⟩
theorem lw_p10 : lw_okq (⟨"GreatProbes$Way", "growOlder", "(LGreatProbes$Rules;)V"⟩, 15) := ⟨⟨by decide +kernel, by decide +kernel⟩, List.mem_of_getElem? (i := 84) (by decide +kernel), List.mem_of_getElem? (i := 439) (by decide +kernel), List.mem_of_getElem? (i := 440) (by decide +kernel)⟩
theorem lw_p11 : lw_okq (⟨"GreatProbes", "isWay", "(I)Z"⟩, 8) := ⟨⟨by decide +kernel, by decide +kernel⟩, List.mem_of_getElem? (i := 14) (by decide +kernel), List.mem_of_getElem? (i := 447) (by decide +kernel), List.mem_of_getElem? (i := 448) (by decide +kernel)⟩
theorem lw_p12 : lw_okq (⟨"GreatProbes", "isHop", "(II)Z"⟩, 8) := ⟨⟨by decide +kernel, by decide +kernel⟩, List.mem_of_getElem? (i := 14) (by decide +kernel), List.mem_of_getElem? (i := 457) (by decide +kernel), List.mem_of_getElem? (i := 458) (by decide +kernel)⟩
theorem lw_p13 : lw_okq (⟨"GreatProbes", "startTrial", "(II)V"⟩, 8) := ⟨⟨by decide +kernel, by decide +kernel⟩, List.mem_of_getElem? (i := 14) (by decide +kernel), List.mem_of_getElem? (i := 521) (by decide +kernel), List.mem_of_getElem? (i := 522) (by decide +kernel)⟩
theorem lw_p14 : lw_okq (⟨"GreatProbes", "ticksUntilFound", "(II)I"⟩, 8) := ⟨⟨by decide +kernel, by decide +kernel⟩, List.mem_of_getElem? (i := 14) (by decide +kernel), List.mem_of_getElem? (i := 531) (by decide +kernel), List.mem_of_getElem? (i := 532) (by decide +kernel)⟩
theorem lw_p15 : lw_okq (⟨"GreatProbesModel", "begins", "()V"⟩, 10) := ⟨⟨by decide +kernel, by decide +kernel⟩, List.mem_of_getElem? (i := 560) (by decide +kernel), List.mem_of_getElem? (i := 566) (by decide +kernel), List.mem_of_getElem? (i := 567) (by decide +kernel)⟩
def lw_privs_1 : List (MethodName × Nat) := [(⟨"GreatProbes$Net", "readItem", "(LGreatProbes$Text;)Z"⟩, 4), (⟨"GreatProbes$Net", "addWay", "()Z"⟩, 4), (⟨"GreatProbes$Net", "readHop", "(LGreatProbes$Text;)Z"⟩, 4), (⟨"GreatProbes$Net", "readLoss", "(LGreatProbes$Text;)Z"⟩, 4), (⟨"GreatProbes$Net", "readRule", "(LGreatProbes$Text;)Z"⟩, 4), (⟨"GreatProbes", "remember", "()V"⟩, 8), (⟨"GreatProbes$Way", "checkLow", "(LGreatProbes$Rules;)V"⟩, 15), (⟨"GreatProbes$Way", "miss", "(LGreatProbes$Rules;)V"⟩, 15), (⟨"GreatProbes$Way", "lowerHigh", "(I)V"⟩, 15), (⟨"GreatProbes$Way", "search", "(LGreatProbes$Rules;)V"⟩, 15), (⟨"GreatProbes$Way", "growOlder", "(LGreatProbes$Rules;)V"⟩, 15), (⟨"GreatProbes", "isWay", "(I)Z"⟩, 8), (⟨"GreatProbes", "isHop", "(II)Z"⟩, 8), (⟨"GreatProbes", "startTrial", "(II)V"⟩, 8), (⟨"GreatProbes", "ticksUntilFound", "(II)I"⟩, 8), (⟨"GreatProbesModel", "begins", "()V"⟩, 10)]
theorem lw_r1 : ∀ q ∈ lw_privs_1, lw_okq q := List.forall_mem_cons.mpr ⟨lw_p0, List.forall_mem_cons.mpr ⟨lw_p1, List.forall_mem_cons.mpr ⟨lw_p2, List.forall_mem_cons.mpr ⟨lw_p3, List.forall_mem_cons.mpr ⟨lw_p4, List.forall_mem_cons.mpr ⟨lw_p5, List.forall_mem_cons.mpr ⟨lw_p6, List.forall_mem_cons.mpr ⟨lw_p7, List.forall_mem_cons.mpr ⟨lw_p8, List.forall_mem_cons.mpr ⟨lw_p9, List.forall_mem_cons.mpr ⟨lw_p10, List.forall_mem_cons.mpr ⟨lw_p11, List.forall_mem_cons.mpr ⟨lw_p12, List.forall_mem_cons.mpr ⟨lw_p13, List.forall_mem_cons.mpr ⟨lw_p14, List.forall_mem_cons.mpr ⟨lw_p15, fun _ h => absurd h List.not_mem_nil⟩⟩⟩⟩⟩⟩⟩⟩⟩⟩⟩⟩⟩⟩⟩⟩
theorem lw_p16 : lw_okq (⟨"GreatProbesModel", "addsWay", "()Z"⟩, 10) := ⟨⟨by decide +kernel, by decide +kernel⟩, List.mem_of_getElem? (i := 560) (by decide +kernel), List.mem_of_getElem? (i := 570) (by decide +kernel), List.mem_of_getElem? (i := 571) (by decide +kernel)⟩
theorem lw_p17 : lw_okq (⟨"GreatProbesModel", "addsHop", "(II)Z"⟩, 10) := ⟨⟨by decide +kernel, by decide +kernel⟩, List.mem_of_getElem? (i := 560) (by decide +kernel), List.mem_of_getElem? (i := 574) (by decide +kernel), List.mem_of_getElem? (i := 575) (by decide +kernel)⟩
theorem lw_p18 : lw_okq (⟨"GreatProbesModel", "takes", "()V"⟩, 10) := ⟨⟨by decide +kernel, by decide +kernel⟩, List.mem_of_getElem? (i := 560) (by decide +kernel), List.mem_of_getElem? (i := 581) (by decide +kernel), List.mem_of_getElem? (i := 582) (by decide +kernel)⟩
theorem lw_p19 : lw_okq (⟨"GreatProbesModel", "reads", "()I"⟩, 10) := ⟨⟨by decide +kernel, by decide +kernel⟩, List.mem_of_getElem? (i := 560) (by decide +kernel), List.mem_of_getElem? (i := 634) (by decide +kernel), List.mem_of_getElem? (i := 635) (by decide +kernel)⟩
theorem lw_p20 : lw_okq (⟨"GreatProbesModel", "takesItem", "()Z"⟩, 10) := ⟨⟨by decide +kernel, by decide +kernel⟩, List.mem_of_getElem? (i := 560) (by decide +kernel), List.mem_of_getElem? (i := 638) (by decide +kernel), List.mem_of_getElem? (i := 639) (by decide +kernel)⟩
theorem lw_p21 : lw_okq (⟨"GreatProbesModel", "takesWord", "()J"⟩, 10) := ⟨⟨by decide +kernel, by decide +kernel⟩, List.mem_of_getElem? (i := 560) (by decide +kernel), List.mem_of_getElem? (i := 642) (by decide +kernel), List.mem_of_getElem? (i := 643) (by decide +kernel)⟩
theorem lw_p22 : lw_okq (⟨"GreatProbesModel", "isAt", "(II)Z"⟩, 10) := ⟨⟨by decide +kernel, by decide +kernel⟩, List.mem_of_getElem? (i := 560) (by decide +kernel), List.mem_of_getElem? (i := 646) (by decide +kernel), List.mem_of_getElem? (i := 647) (by decide +kernel)⟩
theorem lw_p23 : lw_okq (⟨"GreatProbesModel", "takesHop", "()Z"⟩, 10) := ⟨⟨by decide +kernel, by decide +kernel⟩, List.mem_of_getElem? (i := 560) (by decide +kernel), List.mem_of_getElem? (i := 655) (by decide +kernel), List.mem_of_getElem? (i := 656) (by decide +kernel)⟩
theorem lw_p24 : lw_okq (⟨"GreatProbesModel", "takesNumber", "(II)I"⟩, 10) := ⟨⟨by decide +kernel, by decide +kernel⟩, List.mem_of_getElem? (i := 560) (by decide +kernel), List.mem_of_getElem? (i := 659) (by decide +kernel), List.mem_of_getElem? (i := 660) (by decide +kernel)⟩
theorem lw_p25 : lw_okq (⟨"GreatProbesModel", "takesSign", "(I)Z"⟩, 10) := ⟨⟨by decide +kernel, by decide +kernel⟩, List.mem_of_getElem? (i := 560) (by decide +kernel), List.mem_of_getElem? (i := 663) (by decide +kernel), List.mem_of_getElem? (i := 664) (by decide +kernel)⟩
theorem lw_p26 : lw_okq (⟨"GreatProbesModel", "takesLoss", "()Z"⟩, 10) := ⟨⟨by decide +kernel, by decide +kernel⟩, List.mem_of_getElem? (i := 560) (by decide +kernel), List.mem_of_getElem? (i := 672) (by decide +kernel), List.mem_of_getElem? (i := 673) (by decide +kernel)⟩
theorem lw_p27 : lw_okq (⟨"GreatProbesModel", "puts", "(III)Z"⟩, 10) := ⟨⟨by decide +kernel, by decide +kernel⟩, List.mem_of_getElem? (i := 560) (by decide +kernel), List.mem_of_getElem? (i := 676) (by decide +kernel), List.mem_of_getElem? (i := 677) (by decide +kernel)⟩
theorem lw_p28 : lw_okq (⟨"GreatProbesModel", "takesBelief", "()Z"⟩, 10) := ⟨⟨by decide +kernel, by decide +kernel⟩, List.mem_of_getElem? (i := 560) (by decide +kernel), List.mem_of_getElem? (i := 684) (by decide +kernel), List.mem_of_getElem? (i := 685) (by decide +kernel)⟩
theorem lw_p29 : lw_okq (⟨"GreatProbesModel", "keeps", "()V"⟩, 10) := ⟨⟨by decide +kernel, by decide +kernel⟩, List.mem_of_getElem? (i := 560) (by decide +kernel), List.mem_of_getElem? (i := 704) (by decide +kernel), List.mem_of_getElem? (i := 705) (by decide +kernel)⟩
theorem lw_p30 : lw_okq (⟨"GreatProbesModel", "sumOf", "(I)I"⟩, 10) := ⟨⟨by decide +kernel, by decide +kernel⟩, List.mem_of_getElem? (i := 560) (by decide +kernel), List.mem_of_getElem? (i := 708) (by decide +kernel), List.mem_of_getElem? (i := 709) (by decide +kernel)⟩
theorem lw_p31 : lw_okq (⟨"GreatProbesModel", "ticks", "([II)V"⟩, 10) := ⟨⟨by decide +kernel, by decide +kernel⟩, List.mem_of_getElem? (i := 560) (by decide +kernel), List.mem_of_getElem? (i := 712) (by decide +kernel), List.mem_of_getElem? (i := 713) (by decide +kernel)⟩
def lw_privs_2 : List (MethodName × Nat) := [(⟨"GreatProbesModel", "addsWay", "()Z"⟩, 10), (⟨"GreatProbesModel", "addsHop", "(II)Z"⟩, 10), (⟨"GreatProbesModel", "takes", "()V"⟩, 10), (⟨"GreatProbesModel", "reads", "()I"⟩, 10), (⟨"GreatProbesModel", "takesItem", "()Z"⟩, 10), (⟨"GreatProbesModel", "takesWord", "()J"⟩, 10), (⟨"GreatProbesModel", "isAt", "(II)Z"⟩, 10), (⟨"GreatProbesModel", "takesHop", "()Z"⟩, 10), (⟨"GreatProbesModel", "takesNumber", "(II)I"⟩, 10), (⟨"GreatProbesModel", "takesSign", "(I)Z"⟩, 10), (⟨"GreatProbesModel", "takesLoss", "()Z"⟩, 10), (⟨"GreatProbesModel", "puts", "(III)Z"⟩, 10), (⟨"GreatProbesModel", "takesBelief", "()Z"⟩, 10), (⟨"GreatProbesModel", "keeps", "()V"⟩, 10), (⟨"GreatProbesModel", "sumOf", "(I)I"⟩, 10), (⟨"GreatProbesModel", "ticks", "([II)V"⟩, 10)]
theorem lw_r2 : ∀ q ∈ lw_privs_2, lw_okq q := List.forall_mem_cons.mpr ⟨lw_p16, List.forall_mem_cons.mpr ⟨lw_p17, List.forall_mem_cons.mpr ⟨lw_p18, List.forall_mem_cons.mpr ⟨lw_p19, List.forall_mem_cons.mpr ⟨lw_p20, List.forall_mem_cons.mpr ⟨lw_p21, List.forall_mem_cons.mpr ⟨lw_p22, List.forall_mem_cons.mpr ⟨lw_p23, List.forall_mem_cons.mpr ⟨lw_p24, List.forall_mem_cons.mpr ⟨lw_p25, List.forall_mem_cons.mpr ⟨lw_p26, List.forall_mem_cons.mpr ⟨lw_p27, List.forall_mem_cons.mpr ⟨lw_p28, List.forall_mem_cons.mpr ⟨lw_p29, List.forall_mem_cons.mpr ⟨lw_p30, List.forall_mem_cons.mpr ⟨lw_p31, fun _ h => absurd h List.not_mem_nil⟩⟩⟩⟩⟩⟩⟩⟩⟩⟩⟩⟩⟩⟩⟩⟩
theorem lw_p32 : lw_okq (⟨"GreatProbesModel", "feels", "([II)V"⟩, 10) := ⟨⟨by decide +kernel, by decide +kernel⟩, List.mem_of_getElem? (i := 560) (by decide +kernel), List.mem_of_getElem? (i := 716) (by decide +kernel), List.mem_of_getElem? (i := 717) (by decide +kernel)⟩
theorem lw_p33 : lw_okq (⟨"GreatProbesModel", "sends", "([III)V"⟩, 10) := ⟨⟨by decide +kernel, by decide +kernel⟩, List.mem_of_getElem? (i := 560) (by decide +kernel), List.mem_of_getElem? (i := 720) (by decide +kernel), List.mem_of_getElem? (i := 721) (by decide +kernel)⟩
theorem lw_p34 : lw_okq (⟨"GreatProbesModel", "isGone", "()Z"⟩, 10) := ⟨⟨by decide +kernel, by decide +kernel⟩, List.mem_of_getElem? (i := 560) (by decide +kernel), List.mem_of_getElem? (i := 743) (by decide +kernel), List.mem_of_getElem? (i := 744) (by decide +kernel)⟩
theorem lw_p35 : lw_okq (⟨"GreatProbesModel", "probes", "([II)V"⟩, 10) := ⟨⟨by decide +kernel, by decide +kernel⟩, List.mem_of_getElem? (i := 560) (by decide +kernel), List.mem_of_getElem? (i := 750) (by decide +kernel), List.mem_of_getElem? (i := 751) (by decide +kernel)⟩
theorem lw_p36 : lw_okq (⟨"GreatProbesModel", "isWay", "(I)Z"⟩, 10) := ⟨⟨by decide +kernel, by decide +kernel⟩, List.mem_of_getElem? (i := 560) (by decide +kernel), List.mem_of_getElem? (i := 761) (by decide +kernel), List.mem_of_getElem? (i := 762) (by decide +kernel)⟩
theorem lw_p37 : lw_okq (⟨"GreatProbesModel", "isHop", "(II)Z"⟩, 10) := ⟨⟨by decide +kernel, by decide +kernel⟩, List.mem_of_getElem? (i := 560) (by decide +kernel), List.mem_of_getElem? (i := 770) (by decide +kernel), List.mem_of_getElem? (i := 771) (by decide +kernel)⟩
theorem lw_p38 : lw_okq (⟨"GreatProbesModel", "changed", "(II)I"⟩, 10) := ⟨⟨by decide +kernel, by decide +kernel⟩, List.mem_of_getElem? (i := 560) (by decide +kernel), List.mem_of_getElem? (i := 774) (by decide +kernel), List.mem_of_getElem? (i := 775) (by decide +kernel)⟩
theorem lw_p39 : lw_okq (⟨"GreatProbesModel", "soonBy", "(II)I"⟩, 10) := ⟨⟨by decide +kernel, by decide +kernel⟩, List.mem_of_getElem? (i := 560) (by decide +kernel), List.mem_of_getElem? (i := 825) (by decide +kernel), List.mem_of_getElem? (i := 826) (by decide +kernel)⟩
def lw_privs_3 : List (MethodName × Nat) := [(⟨"GreatProbesModel", "feels", "([II)V"⟩, 10), (⟨"GreatProbesModel", "sends", "([III)V"⟩, 10), (⟨"GreatProbesModel", "isGone", "()Z"⟩, 10), (⟨"GreatProbesModel", "probes", "([II)V"⟩, 10), (⟨"GreatProbesModel", "isWay", "(I)Z"⟩, 10), (⟨"GreatProbesModel", "isHop", "(II)Z"⟩, 10), (⟨"GreatProbesModel", "changed", "(II)I"⟩, 10), (⟨"GreatProbesModel", "soonBy", "(II)I"⟩, 10)]
theorem lw_r3 : ∀ q ∈ lw_privs_3, lw_okq q := List.forall_mem_cons.mpr ⟨lw_p32, List.forall_mem_cons.mpr ⟨lw_p33, List.forall_mem_cons.mpr ⟨lw_p34, List.forall_mem_cons.mpr ⟨lw_p35, List.forall_mem_cons.mpr ⟨lw_p36, List.forall_mem_cons.mpr ⟨lw_p37, List.forall_mem_cons.mpr ⟨lw_p38, List.forall_mem_cons.mpr ⟨lw_p39, fun _ h => absurd h List.not_mem_nil⟩⟩⟩⟩⟩⟩⟩⟩
def lw_privs : List (MethodName × Nat) := lw_privs_1 ++ (lw_privs_2 ++ (lw_privs_3))
def lw_tbl : List Cond := k2_sels lw_privs ++ tables_1
theorem lw_privs_ok : ∀ q ∈ lw_privs, lw_okq q := by
  show ∀ q ∈ lw_privs_1 ++ (lw_privs_2 ++ (lw_privs_3)), lw_okq q
  exact List.forall_mem_append.mpr ⟨lw_r1, List.forall_mem_append.mpr ⟨lw_r2, lw_r3⟩⟩
end
section
def RX0 : String := "GreatProbes$Net"
def TX0 : u_T := fun k => match k with
  | 0 => ("GreatProbes$Net", "rules", "LGreatProbes$Rules;", true)
  | 1 => ("GreatProbes$Net", "ways", "[LGreatProbes$Way;", true)
  | 2 => ("GreatProbes$Net", "wayCount", "I", false)
  | _ => ("GreatProbes$Net", "ticks", "I", false)
def tyX0 : Nat → FieldType := fun k => match k with
  | 0 => .object "GreatProbes$Rules"
  | 1 => .array (.object "GreatProbes$Way")
  | 2 => .int
  | _ => .int
abbrev wsX00 : List Cond := u_ws RX0 TX0 4
theorem nmX0 : ∀ a, a < 4 → ∀ b, b < 4 → a ≠ b → (TX0 a).2.1 ≠ (TX0 b).2.1 := by decide +kernel
theorem tyX0_ok : ∀ k, k < 4 → parseFieldDescriptor (TX0 k).2.2.1 = some (tyX0 k) := by decide +kernel
abbrev cX0_init : ByteArray := prog_2_method_1_code
def yX0_init : MethodName := ⟨RX0, "<init>", "()V"⟩
abbrev cX0_copy : ByteArray := prog_2_method_2_code
def yX0_copy : MethodName := ⟨RX0, "copy", "(LGreatProbes$Net;)V"⟩
abbrev cX0_leastLow : ByteArray := prog_2_method_3_code
def yX0_leastLow : MethodName := ⟨RX0, "leastLow", "()I"⟩
abbrev cX0_allDone : ByteArray := prog_2_method_4_code
def yX0_allDone : MethodName := ⟨RX0, "allDone", "()I"⟩
abbrev cX0_allSent : ByteArray := prog_2_method_5_code
def yX0_allSent : MethodName := ⟨RX0, "allSent", "()I"⟩
abbrev cX0_allLost : ByteArray := prog_2_method_6_code
def yX0_allLost : MethodName := ⟨RX0, "allLost", "()I"⟩
abbrev cX0_read : ByteArray := prog_2_method_7_code
def yX0_read : MethodName := ⟨RX0, "read", "(LGreatProbes$Text;)I"⟩
abbrev cX0_readItem : ByteArray := prog_2_method_8_code
def yX0_readItem : MethodName := ⟨RX0, "readItem", "(LGreatProbes$Text;)Z"⟩
abbrev cX0_addWay : ByteArray := prog_2_method_9_code
def yX0_addWay : MethodName := ⟨RX0, "addWay", "()Z"⟩
abbrev cX0_readHop : ByteArray := prog_2_method_10_code
def yX0_readHop : MethodName := ⟨RX0, "readHop", "(LGreatProbes$Text;)Z"⟩
abbrev cX0_readLoss : ByteArray := prog_2_method_11_code
def yX0_readLoss : MethodName := ⟨RX0, "readLoss", "(LGreatProbes$Text;)Z"⟩
abbrev cX0_readRule : ByteArray := prog_2_method_12_code
def yX0_readRule : MethodName := ⟨RX0, "readRule", "(LGreatProbes$Text;)Z"⟩
def RX1 : String := "GreatProbes$Rules"
def TX1 : u_T := fun k => match k with
  | 0 => ("GreatProbes$Rules", "base", "I", false)
  | 1 => ("GreatProbes$Rules", "top", "I", false)
  | 2 => ("GreatProbes$Rules", "age", "I", false)
  | 3 => ("GreatProbes$Rules", "belief", "I", false)
  | _ => ("GreatProbes$Rules", "draws", "I", false)
def tyX1 : Nat → FieldType := fun k => match k with
  | 0 => .int
  | 1 => .int
  | 2 => .int
  | 3 => .int
  | _ => .int
abbrev wsX10 : List Cond := u_ws RX1 TX1 5
theorem nmX1 : ∀ a, a < 5 → ∀ b, b < 5 → a ≠ b → (TX1 a).2.1 ≠ (TX1 b).2.1 := by decide +kernel
theorem tyX1_ok : ∀ k, k < 5 → parseFieldDescriptor (TX1 k).2.2.1 = some (tyX1 k) := by decide +kernel
abbrev cX1_init : ByteArray := prog_3_method_1_code
def yX1_init : MethodName := ⟨RX1, "<init>", "()V"⟩
abbrev cX1_clear : ByteArray := prog_3_method_2_code
def yX1_clear : MethodName := ⟨RX1, "clear", "()V"⟩
abbrev cX1_copy : ByteArray := prog_3_method_3_code
def yX1_copy : MethodName := ⟨RX1, "copy", "(LGreatProbes$Rules;)V"⟩
abbrev cX1_trusts : ByteArray := prog_3_method_4_code
def yX1_trusts : MethodName := ⟨RX1, "trusts", "(II)Z"⟩
def RX2 : String := "GreatProbes$Text"
def TX2 : u_T := fun k => match k with
  | 0 => ("GreatProbes$Text", "letters", "[C", true)
  | 1 => ("GreatProbes$Text", "length", "I", false)
  | _ => ("GreatProbes$Text", "at", "I", false)
def tyX2 : Nat → FieldType := fun k => match k with
  | 0 => .array .char
  | 1 => .int
  | _ => .int
abbrev wsX20 : List Cond := u_ws RX2 TX2 3
theorem nmX2 : ∀ a, a < 3 → ∀ b, b < 3 → a ≠ b → (TX2 a).2.1 ≠ (TX2 b).2.1 := by decide +kernel
theorem tyX2_ok : ∀ k, k < 3 → parseFieldDescriptor (TX2 k).2.2.1 = some (tyX2 k) := by decide +kernel
abbrev cX2_init : ByteArray := prog_4_method_1_code
def yX2_init : MethodName := ⟨RX2, "<init>", "()V"⟩
abbrev cX2_append : ByteArray := prog_4_method_2_code
def yX2_append : MethodName := ⟨RX2, "append", "(C)V"⟩
abbrev cX2_take : ByteArray := prog_4_method_3_code
def yX2_take : MethodName := ⟨RX2, "take", "(Ljava/lang/String;)Z"⟩
abbrev cX2_takeNumber : ByteArray := prog_4_method_4_code
def yX2_takeNumber : MethodName := ⟨RX2, "takeNumber", "(II)I"⟩
abbrev cX2_takeKind : ByteArray := prog_4_method_5_code
def yX2_takeKind : MethodName := ⟨RX2, "takeKind", "()I"⟩
abbrev cX2_takeBelief : ByteArray := prog_4_method_6_code
def yX2_takeBelief : MethodName := ⟨RX2, "takeBelief", "()I"⟩
def RX3 : String := "GreatProbes$Way"
def TX3 : u_T := fun k => match k with
  | 0 => ("GreatProbes$Way", "place", "I", false)
  | 1 => ("GreatProbes$Way", "hops", "I", false)
  | 2 => ("GreatProbes$Way", "limits", "[I", true)
  | 3 => ("GreatProbes$Way", "kinds", "[I", true)
  | 4 => ("GreatProbes$Way", "loss", "I", false)
  | 5 => ("GreatProbes$Way", "low", "I", false)
  | 6 => ("GreatProbes$Way", "high", "I", false)
  | 7 => ("GreatProbes$Way", "state", "I", false)
  | 8 => ("GreatProbes$Way", "fails", "I", false)
  | 9 => ("GreatProbes$Way", "misses", "I", false)
  | 10 => ("GreatProbes$Way", "aged", "I", false)
  | 11 => ("GreatProbes$Way", "fallen", "I", false)
  | 12 => ("GreatProbes$Way", "sent", "I", false)
  | 13 => ("GreatProbes$Way", "lost", "I", false)
  | _ => ("GreatProbes$Way", "trusted", "I", false)
def tyX3 : Nat → FieldType := fun k => match k with
  | 0 => .int
  | 1 => .int
  | 2 => .array .int
  | 3 => .array .int
  | 4 => .int
  | 5 => .int
  | 6 => .int
  | 7 => .int
  | 8 => .int
  | 9 => .int
  | 10 => .int
  | 11 => .int
  | 12 => .int
  | 13 => .int
  | _ => .int
abbrev wsX30 : List Cond := u_ws RX3 TX3 15
theorem nmX3 : ∀ a, a < 15 → ∀ b, b < 15 → a ≠ b → (TX3 a).2.1 ≠ (TX3 b).2.1 := by decide +kernel
theorem tyX3_ok : ∀ k, k < 15 → parseFieldDescriptor (TX3 k).2.2.1 = some (tyX3 k) := by decide +kernel
abbrev cX3_init : ByteArray := prog_5_method_1_code
def yX3_init : MethodName := ⟨RX3, "<init>", "()V"⟩
abbrev cX3_clear : ByteArray := prog_5_method_2_code
def yX3_clear : MethodName := ⟨RX3, "clear", "(I)V"⟩
abbrev cX3_addHop : ByteArray := prog_5_method_3_code
def yX3_addHop : MethodName := ⟨RX3, "addHop", "(II)Z"⟩
abbrev cX3_begin : ByteArray := prog_5_method_4_code
def yX3_begin : MethodName := ⟨RX3, "begin", "(LGreatProbes$Rules;)V"⟩
abbrev cX3_copy : ByteArray := prog_5_method_5_code
def yX3_copy : MethodName := ⟨RX3, "copy", "(LGreatProbes$Way;)V"⟩
abbrev cX3_tell : ByteArray := prog_5_method_6_code
def yX3_tell : MethodName := ⟨RX3, "tell", "(I)I"⟩
abbrev cX3_passes : ByteArray := prog_5_method_7_code
def yX3_passes : MethodName := ⟨RX3, "passes", "()I"⟩
abbrev cX3_sought : ByteArray := prog_5_method_8_code
def yX3_sought : MethodName := ⟨RX3, "sought", "(LGreatProbes$Rules;)I"⟩
abbrev cX3_isNarrowed : ByteArray := prog_5_method_9_code
def yX3_isNarrowed : MethodName := ⟨RX3, "isNarrowed", "()Z"⟩
abbrev cX3_probeSize : ByteArray := prog_5_method_10_code
def yX3_probeSize : MethodName := ⟨RX3, "probeSize", "()I"⟩
abbrev cX3_drawn : ByteArray := prog_5_method_11_code
def yX3_drawn : MethodName := ⟨RX3, "drawn", "(ILGreatProbes$Rules;)I"⟩
abbrev cX3_dropper : ByteArray := prog_5_method_12_code
def yX3_dropper : MethodName := ⟨RX3, "dropper", "(I)I"⟩
abbrev cX3_meeting : ByteArray := prog_5_method_13_code
def yX3_meeting : MethodName := ⟨RX3, "meeting", "(I)I"⟩
abbrev cX3_post : ByteArray := prog_5_method_14_code
def yX3_post : MethodName := ⟨RX3, "post", "(ILGreatProbes$Rules;)I"⟩
abbrev cX3_isLost : ByteArray := prog_5_method_15_code
def yX3_isLost : MethodName := ⟨RX3, "isLost", "(IILGreatProbes$Rules;)Z"⟩
abbrev cX3_goOn : ByteArray := prog_5_method_16_code
def yX3_goOn : MethodName := ⟨RX3, "goOn", "(ILGreatProbes$Rules;)V"⟩
abbrev cX3_step : ByteArray := prog_5_method_17_code
def yX3_step : MethodName := ⟨RX3, "step", "(LGreatProbes$Rules;)V"⟩
abbrev cX3_checkLow : ByteArray := prog_5_method_18_code
def yX3_checkLow : MethodName := ⟨RX3, "checkLow", "(LGreatProbes$Rules;)V"⟩
abbrev cX3_miss : ByteArray := prog_5_method_19_code
def yX3_miss : MethodName := ⟨RX3, "miss", "(LGreatProbes$Rules;)V"⟩
abbrev cX3_search : ByteArray := prog_5_method_20_code
def yX3_search : MethodName := ⟨RX3, "search", "(LGreatProbes$Rules;)V"⟩
abbrev cX3_lowerHigh : ByteArray := prog_5_method_21_code
def yX3_lowerHigh : MethodName := ⟨RX3, "lowerHigh", "(I)V"⟩
abbrev cX3_growOlder : ByteArray := prog_5_method_22_code
def yX3_growOlder : MethodName := ⟨RX3, "growOlder", "(LGreatProbes$Rules;)V"⟩
def RX4 : String := "GreatProbes"
def TX4 : u_T := fun k => match k with
  | 0 => ("GreatProbes", "text", "LGreatProbes$Text;", true)
  | 1 => ("GreatProbes", "net", "LGreatProbes$Net;", true)
  | 2 => ("GreatProbes", "draft", "LGreatProbes$Net;", true)
  | 3 => ("GreatProbes", "earlier", "[LGreatProbes$Net;", true)
  | 4 => ("GreatProbes", "nextEarlier", "I", false)
  | 5 => ("GreatProbes", "undoable", "I", false)
  | 6 => ("GreatProbes", "trial", "LGreatProbes$Way;", true)
  | _ => ("GreatProbes", "trialRules", "LGreatProbes$Rules;", true)
def tyX4 : Nat → FieldType := fun k => match k with
  | 0 => .object "GreatProbes$Text"
  | 1 => .object "GreatProbes$Net"
  | 2 => .object "GreatProbes$Net"
  | 3 => .array (.object "GreatProbes$Net")
  | 4 => .int
  | 5 => .int
  | 6 => .object "GreatProbes$Way"
  | _ => .object "GreatProbes$Rules"
abbrev wsX40 : List Cond := u_ws RX4 TX4 8
theorem nmX4 : ∀ a, a < 8 → ∀ b, b < 8 → a ≠ b → (TX4 a).2.1 ≠ (TX4 b).2.1 := by decide +kernel
theorem tyX4_ok : ∀ k, k < 8 → parseFieldDescriptor (TX4 k).2.2.1 = some (tyX4 k) := by decide +kernel
abbrev cX4_init : ByteArray := prog_1_method_1_code
def yX4_init : MethodName := ⟨RX4, "<init>", "()V"⟩
abbrev cX4_write : ByteArray := prog_1_method_2_code
def yX4_write : MethodName := ⟨RX4, "write", "(I)I"⟩
abbrev cX4_wipe : ByteArray := prog_1_method_3_code
def yX4_wipe : MethodName := ⟨RX4, "wipe", "()I"⟩
abbrev cX4_fault : ByteArray := prog_1_method_4_code
def yX4_fault : MethodName := ⟨RX4, "fault", "()I"⟩
abbrev cX4_lay : ByteArray := prog_1_method_5_code
def yX4_lay : MethodName := ⟨RX4, "lay", "()I"⟩
abbrev cX4_tick : ByteArray := prog_1_method_6_code
def yX4_tick : MethodName := ⟨RX4, "tick", "(I)I"⟩
abbrev cX4_send : ByteArray := prog_1_method_7_code
def yX4_send : MethodName := ⟨RX4, "send", "(II)I"⟩
abbrev cX4_limit : ByteArray := prog_1_method_8_code
def yX4_limit : MethodName := ⟨RX4, "limit", "(III)I"⟩
abbrev cX4_kind : ByteArray := prog_1_method_9_code
def yX4_kind : MethodName := ⟨RX4, "kind", "(III)I"⟩
abbrev cX4_loss : ByteArray := prog_1_method_10_code
def yX4_loss : MethodName := ⟨RX4, "loss", "(II)I"⟩
abbrev cX4_believe : ByteArray := prog_1_method_11_code
def yX4_believe : MethodName := ⟨RX4, "believe", "(I)I"⟩
abbrev cX4_undo : ByteArray := prog_1_method_12_code
def yX4_undo : MethodName := ⟨RX4, "undo", "()I"⟩
abbrev cX4_way : ByteArray := prog_1_method_13_code
def yX4_way : MethodName := ⟨RX4, "way", "(II)I"⟩
abbrev cX4_hop : ByteArray := prog_1_method_14_code
def yX4_hop : MethodName := ⟨RX4, "hop", "(III)I"⟩
abbrev cX4_probe : ByteArray := prog_1_method_15_code
def yX4_probe : MethodName := ⟨RX4, "probe", "(I)I"⟩
abbrev cX4_padding : ByteArray := prog_1_method_16_code
def yX4_padding : MethodName := ⟨RX4, "padding", "(II)I"⟩
abbrev cX4_meets : ByteArray := prog_1_method_17_code
def yX4_meets : MethodName := ⟨RX4, "meets", "(III)I"⟩
abbrev cX4_draw : ByteArray := prog_1_method_18_code
def yX4_draw : MethodName := ⟨RX4, "draw", "(II)I"⟩
abbrev cX4_ahead : ByteArray := prog_1_method_19_code
def yX4_ahead : MethodName := ⟨RX4, "ahead", "(III)I"⟩
abbrev cX4_soon : ByteArray := prog_1_method_20_code
def yX4_soon : MethodName := ⟨RX4, "soon", "(II)I"⟩
abbrev cX4_best : ByteArray := prog_1_method_21_code
def yX4_best : MethodName := ⟨RX4, "best", "(I)I"⟩
abbrev cX4_count : ByteArray := prog_1_method_22_code
def yX4_count : MethodName := ⟨RX4, "count", "(I)I"⟩
abbrev cX4_isBetween : ByteArray := prog_1_method_23_code
def yX4_isBetween : MethodName := ⟨RX4, "isBetween", "(III)Z"⟩
abbrev cX4_isWay : ByteArray := prog_1_method_24_code
def yX4_isWay : MethodName := ⟨RX4, "isWay", "(I)Z"⟩
abbrev cX4_isHop : ByteArray := prog_1_method_25_code
def yX4_isHop : MethodName := ⟨RX4, "isHop", "(II)Z"⟩
abbrev cX4_remember : ByteArray := prog_1_method_26_code
def yX4_remember : MethodName := ⟨RX4, "remember", "()V"⟩
abbrev cX4_startTrial : ByteArray := prog_1_method_27_code
def yX4_startTrial : MethodName := ⟨RX4, "startTrial", "(II)V"⟩
abbrev cX4_ticksUntilFound : ByteArray := prog_1_method_28_code
def yX4_ticksUntilFound : MethodName := ⟨RX4, "ticksUntilFound", "(II)I"⟩
def RX5 : String := "GreatProbesModel"
def TX5 : u_T := fun k => match k with
  | 0 => ("GreatProbesModel", "now", "[I", true)
  | 1 => ("GreatProbesModel", "read", "[I", true)
  | 2 => ("GreatProbesModel", "aside", "[I", true)
  | 3 => ("GreatProbesModel", "past", "[I", true)
  | 4 => ("GreatProbesModel", "changes", "I", false)
  | 5 => ("GreatProbesModel", "text", "[I", true)
  | 6 => ("GreatProbesModel", "letters", "I", false)
  | 7 => ("GreatProbesModel", "spot", "I", false)
  | 8 => ("GreatProbesModel", "answer", "I", false)
  | _ => ("GreatProbesModel", "believed", "Z", false)
def tyX5 : Nat → FieldType := fun k => match k with
  | 0 => .array .int
  | 1 => .array .int
  | 2 => .array .int
  | 3 => .array .int
  | 4 => .int
  | 5 => .array .int
  | 6 => .int
  | 7 => .int
  | 8 => .int
  | _ => .boolean
abbrev wsX50 : List Cond := u_ws RX5 TX5 10
theorem nmX5 : ∀ a, a < 10 → ∀ b, b < 10 → a ≠ b → (TX5 a).2.1 ≠ (TX5 b).2.1 := by decide +kernel
theorem tyX5_ok : ∀ k, k < 10 → parseFieldDescriptor (TX5 k).2.2.1 = some (tyX5 k) := by decide +kernel
abbrev cX5_init : ByteArray := prog_7_method_1_code
def yX5_init : MethodName := ⟨RX5, "<init>", "()V"⟩
abbrev cX5_in : ByteArray := prog_7_method_3_code
def yX5_in : MethodName := ⟨RX5, "in", "(III)Z"⟩
abbrev cX5_lesser : ByteArray := prog_7_method_4_code
def yX5_lesser : MethodName := ⟨RX5, "lesser", "(II)I"⟩
abbrev cX5_greater : ByteArray := prog_7_method_5_code
def yX5_greater : MethodName := ⟨RX5, "greater", "(II)I"⟩
abbrev cX5_at : ByteArray := prog_7_method_6_code
def yX5_at : MethodName := ⟨RX5, "at", "(II)I"⟩
abbrev cX5_copies : ByteArray := prog_7_method_7_code
def yX5_copies : MethodName := ⟨RX5, "copies", "([II[II)V"⟩
abbrev cX5_begins : ByteArray := prog_7_method_8_code
def yX5_begins : MethodName := ⟨RX5, "begins", "()V"⟩
abbrev cX5_addsWay : ByteArray := prog_7_method_9_code
def yX5_addsWay : MethodName := ⟨RX5, "addsWay", "()Z"⟩
abbrev cX5_addsHop : ByteArray := prog_7_method_10_code
def yX5_addsHop : MethodName := ⟨RX5, "addsHop", "(II)Z"⟩
abbrev cX5_takes : ByteArray := prog_7_method_11_code
def yX5_takes : MethodName := ⟨RX5, "takes", "()V"⟩
abbrev cX5_isAt : ByteArray := prog_7_method_12_code
def yX5_isAt : MethodName := ⟨RX5, "isAt", "(II)Z"⟩
abbrev cX5_takesSign : ByteArray := prog_7_method_13_code
def yX5_takesSign : MethodName := ⟨RX5, "takesSign", "(I)Z"⟩
abbrev cX5_takesWord : ByteArray := prog_7_method_14_code
def yX5_takesWord : MethodName := ⟨RX5, "takesWord", "()J"⟩
abbrev cX5_takesNumber : ByteArray := prog_7_method_15_code
def yX5_takesNumber : MethodName := ⟨RX5, "takesNumber", "(II)I"⟩
abbrev cX5_puts : ByteArray := prog_7_method_16_code
def yX5_puts : MethodName := ⟨RX5, "puts", "(III)Z"⟩
abbrev cX5_takesHop : ByteArray := prog_7_method_17_code
def yX5_takesHop : MethodName := ⟨RX5, "takesHop", "()Z"⟩
abbrev cX5_takesBelief : ByteArray := prog_7_method_18_code
def yX5_takesBelief : MethodName := ⟨RX5, "takesBelief", "()Z"⟩
abbrev cX5_takesLoss : ByteArray := prog_7_method_19_code
def yX5_takesLoss : MethodName := ⟨RX5, "takesLoss", "()Z"⟩
abbrev cX5_takesItem : ByteArray := prog_7_method_20_code
def yX5_takesItem : MethodName := ⟨RX5, "takesItem", "()Z"⟩
abbrev cX5_reads : ByteArray := prog_7_method_21_code
def yX5_reads : MethodName := ⟨RX5, "reads", "()I"⟩
abbrev cX5_write : ByteArray := prog_7_method_22_code
def yX5_write : MethodName := ⟨RX5, "write", "(I)I"⟩
abbrev cX5_wipe : ByteArray := prog_7_method_23_code
def yX5_wipe : MethodName := ⟨RX5, "wipe", "()I"⟩
abbrev cX5_fault : ByteArray := prog_7_method_24_code
def yX5_fault : MethodName := ⟨RX5, "fault", "()I"⟩
abbrev cX5_lay : ByteArray := prog_7_method_25_code
def yX5_lay : MethodName := ⟨RX5, "lay", "()I"⟩
abbrev cX5_drawn : ByteArray := prog_7_method_26_code
def yX5_drawn : MethodName := ⟨RX5, "drawn", "([III)I"⟩
abbrev cX5_dropper : ByteArray := prog_7_method_27_code
def yX5_dropper : MethodName := ⟨RX5, "dropper", "([III)I"⟩
abbrev cX5_met : ByteArray := prog_7_method_28_code
def yX5_met : MethodName := ⟨RX5, "met", "([III)I"⟩
abbrev cX5_isBelieved : ByteArray := prog_7_method_29_code
def yX5_isBelieved : MethodName := ⟨RX5, "isBelieved", "([III)Z"⟩
abbrev cX5_sends : ByteArray := prog_7_method_30_code
def yX5_sends : MethodName := ⟨RX5, "sends", "([III)V"⟩
abbrev cX5_isGone : ByteArray := prog_7_method_31_code
def yX5_isGone : MethodName := ⟨RX5, "isGone", "()Z"⟩
abbrev cX5_feels : ByteArray := prog_7_method_32_code
def yX5_feels : MethodName := ⟨RX5, "feels", "([II)V"⟩
abbrev cX5_probed : ByteArray := prog_7_method_33_code
def yX5_probed : MethodName := ⟨RX5, "probed", "([II)I"⟩
abbrev cX5_probes : ByteArray := prog_7_method_34_code
def yX5_probes : MethodName := ⟨RX5, "probes", "([II)V"⟩
abbrev cX5_ticks : ByteArray := prog_7_method_35_code
def yX5_ticks : MethodName := ⟨RX5, "ticks", "([II)V"⟩
abbrev cX5_keeps : ByteArray := prog_7_method_36_code
def yX5_keeps : MethodName := ⟨RX5, "keeps", "()V"⟩
abbrev cX5_undo : ByteArray := prog_7_method_37_code
def yX5_undo : MethodName := ⟨RX5, "undo", "()I"⟩
abbrev cX5_sumOf : ByteArray := prog_7_method_38_code
def yX5_sumOf : MethodName := ⟨RX5, "sumOf", "(I)I"⟩
abbrev cX5_tick : ByteArray := prog_7_method_39_code
def yX5_tick : MethodName := ⟨RX5, "tick", "(I)I"⟩
abbrev cX5_isWay : ByteArray := prog_7_method_40_code
def yX5_isWay : MethodName := ⟨RX5, "isWay", "(I)Z"⟩
abbrev cX5_isHop : ByteArray := prog_7_method_41_code
def yX5_isHop : MethodName := ⟨RX5, "isHop", "(II)Z"⟩
abbrev cX5_send : ByteArray := prog_7_method_42_code
def yX5_send : MethodName := ⟨RX5, "send", "(II)I"⟩
abbrev cX5_changed : ByteArray := prog_7_method_43_code
def yX5_changed : MethodName := ⟨RX5, "changed", "(II)I"⟩
abbrev cX5_limit : ByteArray := prog_7_method_44_code
def yX5_limit : MethodName := ⟨RX5, "limit", "(III)I"⟩
abbrev cX5_kind : ByteArray := prog_7_method_45_code
def yX5_kind : MethodName := ⟨RX5, "kind", "(III)I"⟩
abbrev cX5_loss : ByteArray := prog_7_method_46_code
def yX5_loss : MethodName := ⟨RX5, "loss", "(II)I"⟩
abbrev cX5_believe : ByteArray := prog_7_method_47_code
def yX5_believe : MethodName := ⟨RX5, "believe", "(I)I"⟩
abbrev cX5_passes : ByteArray := prog_7_method_48_code
def yX5_passes : MethodName := ⟨RX5, "passes", "([II)I"⟩
abbrev cX5_way : ByteArray := prog_7_method_49_code
def yX5_way : MethodName := ⟨RX5, "way", "(II)I"⟩
abbrev cX5_hop : ByteArray := prog_7_method_50_code
def yX5_hop : MethodName := ⟨RX5, "hop", "(III)I"⟩
abbrev cX5_probe : ByteArray := prog_7_method_51_code
def yX5_probe : MethodName := ⟨RX5, "probe", "(I)I"⟩
abbrev cX5_padding : ByteArray := prog_7_method_52_code
def yX5_padding : MethodName := ⟨RX5, "padding", "(II)I"⟩
abbrev cX5_meets : ByteArray := prog_7_method_53_code
def yX5_meets : MethodName := ⟨RX5, "meets", "(III)I"⟩
abbrev cX5_draw : ByteArray := prog_7_method_54_code
def yX5_draw : MethodName := ⟨RX5, "draw", "(II)I"⟩
abbrev cX5_ahead : ByteArray := prog_7_method_55_code
def yX5_ahead : MethodName := ⟨RX5, "ahead", "(III)I"⟩
abbrev cX5_soonBy : ByteArray := prog_7_method_56_code
def yX5_soonBy : MethodName := ⟨RX5, "soonBy", "(II)I"⟩
abbrev cX5_soon : ByteArray := prog_7_method_57_code
def yX5_soon : MethodName := ⟨RX5, "soon", "(II)I"⟩
abbrev cX5_best : ByteArray := prog_7_method_58_code
def yX5_best : MethodName := ⟨RX5, "best", "(I)I"⟩
abbrev cX5_count : ByteArray := prog_7_method_59_code
def yX5_count : MethodName := ⟨RX5, "count", "(I)I"⟩
def RJ9 : String := "java/lang/Math"
def TJ9 : u_T := fun k => match k with
  | _ => ("", "", "", false)
def tyJ9 : Nat → FieldType := fun k => match k with
  | _ => .int
abbrev wsJ90 : List Cond := u_ws RJ9 TJ9 0
theorem nmJ9 : ∀ a, a < 0 → ∀ b, b < 0 → a ≠ b → (TJ9 a).2.1 ≠ (TJ9 b).2.1 := by decide +kernel
theorem tyJ9_ok : ∀ k, k < 0 → parseFieldDescriptor (TJ9 k).2.2.1 = some (tyJ9 k) := by decide +kernel
abbrev cJ9_max_7cf53 : ByteArray := prog_8_method_65_code
def yJ9_max_7cf53 : MethodName := ⟨RJ9, "max", "(II)I"⟩
abbrev cJ9_min_7cf53 : ByteArray := prog_8_method_69_code
def yJ9_min_7cf53 : MethodName := ⟨RJ9, "min", "(II)I"⟩
def RJ0 : String := "java/lang/String"
def TJ0 : u_T := fun k => match k with
  | _ => ("", "", "", false)
def tyJ0 : Nat → FieldType := fun k => match k with
  | _ => .int
abbrev wsJ00 : List Cond := u_ws RJ0 TJ0 0
theorem nmJ0 : ∀ a, a < 0 → ∀ b, b < 0 → a ≠ b → (TJ0 a).2.1 ≠ (TJ0 b).2.1 := by decide +kernel
theorem tyJ0_ok : ∀ k, k < 0 → parseFieldDescriptor (TJ0 k).2.2.1 = some (tyJ0 k) := by decide +kernel
abbrev cJ0_length_8abf5 : ByteArray := prog_9_method_54_code
def yJ0_length_8abf5 : MethodName := ⟨RJ0, "length", "()I"⟩
abbrev cJ0_charAt_5068e : ByteArray := prog_9_method_56_code
def yJ0_charAt_5068e : MethodName := ⟨RJ0, "charAt", "(I)C"⟩
abbrev cJ0_coder_7d493 : ByteArray := prog_9_method_152_code
def yJ0_coder_7d493 : MethodName := ⟨RJ0, "coder", "()B"⟩
abbrev cJ0_isLatin1_aae02 : ByteArray := prog_9_method_154_code
def yJ0_isLatin1_aae02 : MethodName := ⟨RJ0, "isLatin1", "()Z"⟩
abbrev cJ0_checkIndex_df160 : ByteArray := prog_9_method_155_code
def yJ0_checkIndex_df160 : MethodName := ⟨RJ0, "checkIndex", "(II)V"⟩
def RJ1 : String := "java/lang/StringLatin1"
def TJ1 : u_T := fun k => match k with
  | _ => ("", "", "", false)
def tyJ1 : Nat → FieldType := fun k => match k with
  | _ => .int
abbrev wsJ10 : List Cond := u_ws RJ1 TJ1 0
theorem nmJ1 : ∀ a, a < 0 → ∀ b, b < 0 → a ≠ b → (TJ1 a).2.1 ≠ (TJ1 b).2.1 := by decide +kernel
theorem tyJ1_ok : ∀ k, k < 0 → parseFieldDescriptor (TJ1 k).2.2.1 = some (tyJ1 k) := by decide +kernel
abbrev cJ1_charAt_3b067 : ByteArray := prog_10_method_2_code
def yJ1_charAt_3b067 : MethodName := ⟨RJ1, "charAt", "([BI)C"⟩
def RJ2 : String := "java/lang/StringUTF16"
def TJ2 : u_T := fun k => match k with
  | _ => ("", "", "", false)
def tyJ2 : Nat → FieldType := fun k => match k with
  | _ => .int
abbrev wsJ20 : List Cond := u_ws RJ2 TJ2 0
theorem nmJ2 : ∀ a, a < 0 → ∀ b, b < 0 → a ≠ b → (TJ2 a).2.1 ≠ (TJ2 b).2.1 := by decide +kernel
theorem tyJ2_ok : ∀ k, k < 0 → parseFieldDescriptor (TJ2 k).2.2.1 = some (tyJ2 k) := by decide +kernel
abbrev cJ2_getChar_3b067 : ByteArray := prog_11_method_5_code
def yJ2_getChar_3b067 : MethodName := ⟨RJ2, "getChar", "([BI)C"⟩
abbrev cJ2_length_9d52b : ByteArray := prog_11_method_6_code
def yJ2_length_9d52b : MethodName := ⟨RJ2, "length", "([B)I"⟩
abbrev cJ2_charAt_3b067 : ByteArray := prog_11_method_83_code
def yJ2_charAt_3b067 : MethodName := ⟨RJ2, "charAt", "([BI)C"⟩
abbrev cJ2_checkIndex_2214a : ByteArray := prog_11_method_91_code
def yJ2_checkIndex_2214a : MethodName := ⟨RJ2, "checkIndex", "(I[B)V"⟩
def RJ10 : String := "java/lang/System"
def TJ10 : u_T := fun k => match k with
  | _ => ("", "", "", false)
def tyJ10 : Nat → FieldType := fun k => match k with
  | _ => .int
abbrev wsJ100 : List Cond := u_ws RJ10 TJ10 0
theorem nmJ10 : ∀ a, a < 0 → ∀ b, b < 0 → a ≠ b → (TJ10 a).2.1 ≠ (TJ10 b).2.1 := by decide +kernel
theorem tyJ10_ok : ∀ k, k < 0 → parseFieldDescriptor (TJ10 k).2.2.1 = some (tyJ10 k) := by decide +kernel
def RJ3 : String := "jdk/internal/util/Preconditions"
def TJ3 : u_T := fun k => match k with
  | _ => ("", "", "", false)
def tyJ3 : Nat → FieldType := fun k => match k with
  | _ => .int
abbrev wsJ30 : List Cond := u_ws RJ3 TJ3 0
theorem nmJ3 : ∀ a, a < 0 → ∀ b, b < 0 → a ≠ b → (TJ3 a).2.1 ≠ (TJ3 b).2.1 := by decide +kernel
theorem tyJ3_ok : ∀ k, k < 0 → parseFieldDescriptor (TJ3 k).2.2.1 = some (tyJ3 k) := by decide +kernel
abbrev cJ3_checkIndex_8e157 : ByteArray := prog_13_method_11_code
def yJ3_checkIndex_8e157 : MethodName := ⟨RJ3, "checkIndex", "(IILjava/util/function/BiFunction;)I"⟩
def RL : String := "GreatProbesLaw"
abbrev cL_law : ByteArray := code
def yL_law : MethodName := ⟨RL, "law", "([I)Z"⟩
abbrev vwCl : List vw_C := [(RX0, TX0, 4), (RX1, TX1, 5), (RX2, TX2, 3), (RX3, TX3, 15), (RX4, TX4, 8), (RX5, TX5, 10)]
end
section
theorem dX0_init_0 : decode cX0_init 0 = .ok (.aload_n 0, 1) := by decide +kernel
theorem dX0_init_1 : decode cX0_init 1 = .ok (.invokespecial 3, 3) := by decide +kernel
theorem dX0_init_4 : decode cX0_init 4 = .ok (.aload_n 0, 1) := by decide +kernel
theorem dX0_init_5 : decode cX0_init 5 = .ok (.new 9, 3) := by decide +kernel
theorem dX0_init_8 : decode cX0_init 8 = .ok (.dup, 1) := by decide +kernel
theorem dX0_init_9 : decode cX0_init 9 = .ok (.invokespecial 11, 3) := by decide +kernel
theorem dX0_init_12 : decode cX0_init 12 = .ok (.putfield 12, 3) := by decide +kernel
theorem dX0_init_15 : decode cX0_init 15 = .ok (.aload_n 0, 1) := by decide +kernel
theorem dX0_init_16 : decode cX0_init 16 = .ok (.iconst 4, 1) := by decide +kernel
theorem dX0_init_17 : decode cX0_init 17 = .ok (.anewarray 18, 3) := by decide +kernel
theorem dX0_init_20 : decode cX0_init 20 = .ok (.putfield 20, 3) := by decide +kernel
theorem dX0_init_23 : decode cX0_init 23 = .ok (.iconst 0, 1) := by decide +kernel
theorem dX0_init_24 : decode cX0_init 24 = .ok (.istore_n 1, 1) := by decide +kernel
theorem dX0_init_25 : decode cX0_init 25 = .ok (.iload_n 1, 1) := by decide +kernel
theorem dX0_init_26 : decode cX0_init 26 = .ok (.iconst 4, 1) := by decide +kernel
theorem dX0_init_27 : decode cX0_init 27 = .ok (.if_icmp .ge 22, 3) := by decide +kernel
theorem dX0_init_30 : decode cX0_init 30 = .ok (.aload_n 0, 1) := by decide +kernel
theorem dX0_init_31 : decode cX0_init 31 = .ok (.getfield 20, 3) := by decide +kernel
theorem dX0_init_34 : decode cX0_init 34 = .ok (.iload_n 1, 1) := by decide +kernel
theorem dX0_init_35 : decode cX0_init 35 = .ok (.new 18, 3) := by decide +kernel
theorem dX0_init_38 : decode cX0_init 38 = .ok (.dup, 1) := by decide +kernel
theorem dX0_init_39 : decode cX0_init 39 = .ok (.invokespecial 24, 3) := by decide +kernel
theorem dX0_init_42 : decode cX0_init 42 = .ok (.aastore, 1) := by decide +kernel
theorem dX0_init_43 : decode cX0_init 43 = .ok (.iinc 1 1, 3) := by decide +kernel
theorem dX0_init_46 : decode cX0_init 46 = .ok (.goto (-21), 3) := by decide +kernel
theorem dX0_init_49 : decode cX0_init 49 = .ok (.return_, 1) := by decide +kernel
theorem dX0_copy_0 : decode cX0_copy 0 = .ok (.aload_n 0, 1) := by decide +kernel
theorem dX0_copy_1 : decode cX0_copy 1 = .ok (.getfield 12, 3) := by decide +kernel
theorem dX0_copy_4 : decode cX0_copy 4 = .ok (.aload_n 1, 1) := by decide +kernel
theorem dX0_copy_5 : decode cX0_copy 5 = .ok (.getfield 12, 3) := by decide +kernel
theorem dX0_copy_8 : decode cX0_copy 8 = .ok (.invokevirtual 25, 3) := by decide +kernel
theorem dX0_copy_11 : decode cX0_copy 11 = .ok (.iconst 0, 1) := by decide +kernel
theorem dX0_copy_12 : decode cX0_copy 12 = .ok (.istore_n 2, 1) := by decide +kernel
theorem dX0_copy_13 : decode cX0_copy 13 = .ok (.iload_n 2, 1) := by decide +kernel
theorem dX0_copy_14 : decode cX0_copy 14 = .ok (.aload_n 1, 1) := by decide +kernel
theorem dX0_copy_15 : decode cX0_copy 15 = .ok (.getfield 29, 3) := by decide +kernel
theorem dX0_copy_18 : decode cX0_copy 18 = .ok (.if_icmp .ge 24, 3) := by decide +kernel
theorem dX0_copy_21 : decode cX0_copy 21 = .ok (.aload_n 0, 1) := by decide +kernel
theorem dX0_copy_22 : decode cX0_copy 22 = .ok (.getfield 20, 3) := by decide +kernel
theorem dX0_copy_25 : decode cX0_copy 25 = .ok (.iload_n 2, 1) := by decide +kernel
theorem dX0_copy_26 : decode cX0_copy 26 = .ok (.aaload, 1) := by decide +kernel
theorem dX0_copy_27 : decode cX0_copy 27 = .ok (.aload_n 1, 1) := by decide +kernel
theorem dX0_copy_28 : decode cX0_copy 28 = .ok (.getfield 20, 3) := by decide +kernel
theorem dX0_copy_31 : decode cX0_copy 31 = .ok (.iload_n 2, 1) := by decide +kernel
theorem dX0_copy_32 : decode cX0_copy 32 = .ok (.aaload, 1) := by decide +kernel
theorem dX0_copy_33 : decode cX0_copy 33 = .ok (.invokevirtual 33, 3) := by decide +kernel
theorem dX0_copy_36 : decode cX0_copy 36 = .ok (.iinc 2 1, 3) := by decide +kernel
theorem dX0_copy_39 : decode cX0_copy 39 = .ok (.goto (-26), 3) := by decide +kernel
theorem dX0_copy_42 : decode cX0_copy 42 = .ok (.aload_n 0, 1) := by decide +kernel
theorem dX0_copy_43 : decode cX0_copy 43 = .ok (.aload_n 1, 1) := by decide +kernel
theorem dX0_copy_44 : decode cX0_copy 44 = .ok (.getfield 29, 3) := by decide +kernel
theorem dX0_copy_47 : decode cX0_copy 47 = .ok (.putfield 29, 3) := by decide +kernel
theorem dX0_copy_50 : decode cX0_copy 50 = .ok (.aload_n 0, 1) := by decide +kernel
theorem dX0_copy_51 : decode cX0_copy 51 = .ok (.aload_n 1, 1) := by decide +kernel
theorem dX0_copy_52 : decode cX0_copy 52 = .ok (.getfield 36, 3) := by decide +kernel
theorem dX0_copy_55 : decode cX0_copy 55 = .ok (.putfield 36, 3) := by decide +kernel
theorem dX0_copy_58 : decode cX0_copy 58 = .ok (.return_, 1) := by decide +kernel
theorem dX0_leastLow_0 : decode cX0_leastLow 0 = .ok (.sipush 999, 3) := by decide +kernel
theorem dX0_leastLow_3 : decode cX0_leastLow 3 = .ok (.istore_n 1, 1) := by decide +kernel
theorem dX0_leastLow_4 : decode cX0_leastLow 4 = .ok (.iconst 0, 1) := by decide +kernel
theorem dX0_leastLow_5 : decode cX0_leastLow 5 = .ok (.istore_n 2, 1) := by decide +kernel
theorem dX0_leastLow_6 : decode cX0_leastLow 6 = .ok (.iload_n 2, 1) := by decide +kernel
theorem dX0_leastLow_7 : decode cX0_leastLow 7 = .ok (.aload_n 0, 1) := by decide +kernel
theorem dX0_leastLow_8 : decode cX0_leastLow 8 = .ok (.getfield 29, 3) := by decide +kernel
theorem dX0_leastLow_11 : decode cX0_leastLow 11 = .ok (.if_icmp .ge 23, 3) := by decide +kernel
theorem dX0_leastLow_14 : decode cX0_leastLow 14 = .ok (.iload_n 1, 1) := by decide +kernel
theorem dX0_leastLow_15 : decode cX0_leastLow 15 = .ok (.aload_n 0, 1) := by decide +kernel
theorem dX0_leastLow_16 : decode cX0_leastLow 16 = .ok (.getfield 20, 3) := by decide +kernel
theorem dX0_leastLow_19 : decode cX0_leastLow 19 = .ok (.iload_n 2, 1) := by decide +kernel
theorem dX0_leastLow_20 : decode cX0_leastLow 20 = .ok (.aaload, 1) := by decide +kernel
theorem dX0_leastLow_21 : decode cX0_leastLow 21 = .ok (.getfield 39, 3) := by decide +kernel
theorem dX0_leastLow_24 : decode cX0_leastLow 24 = .ok (.invokestatic 42, 3) := by decide +kernel
theorem dX0_leastLow_27 : decode cX0_leastLow 27 = .ok (.istore_n 1, 1) := by decide +kernel
theorem dX0_leastLow_28 : decode cX0_leastLow 28 = .ok (.iinc 2 1, 3) := by decide +kernel
theorem dX0_leastLow_31 : decode cX0_leastLow 31 = .ok (.goto (-25), 3) := by decide +kernel
theorem dX0_leastLow_34 : decode cX0_leastLow 34 = .ok (.iload_n 1, 1) := by decide +kernel
theorem dX0_leastLow_35 : decode cX0_leastLow 35 = .ok (.ireturn, 1) := by decide +kernel
theorem dX0_allDone_0 : decode cX0_allDone 0 = .ok (.iconst 0, 1) := by decide +kernel
theorem dX0_allDone_1 : decode cX0_allDone 1 = .ok (.istore_n 1, 1) := by decide +kernel
theorem dX0_allDone_2 : decode cX0_allDone 2 = .ok (.iconst 0, 1) := by decide +kernel
theorem dX0_allDone_3 : decode cX0_allDone 3 = .ok (.istore_n 2, 1) := by decide +kernel
theorem dX0_allDone_4 : decode cX0_allDone 4 = .ok (.iload_n 2, 1) := by decide +kernel
theorem dX0_allDone_5 : decode cX0_allDone 5 = .ok (.aload_n 0, 1) := by decide +kernel
theorem dX0_allDone_6 : decode cX0_allDone 6 = .ok (.getfield 29, 3) := by decide +kernel
theorem dX0_allDone_9 : decode cX0_allDone 9 = .ok (.if_icmp .ge 30, 3) := by decide +kernel
theorem dX0_allDone_12 : decode cX0_allDone 12 = .ok (.iload_n 1, 1) := by decide +kernel
theorem dX0_allDone_13 : decode cX0_allDone 13 = .ok (.aload_n 0, 1) := by decide +kernel
theorem dX0_allDone_14 : decode cX0_allDone 14 = .ok (.getfield 20, 3) := by decide +kernel
theorem dX0_allDone_17 : decode cX0_allDone 17 = .ok (.iload_n 2, 1) := by decide +kernel
theorem dX0_allDone_18 : decode cX0_allDone 18 = .ok (.aaload, 1) := by decide +kernel
theorem dX0_allDone_19 : decode cX0_allDone 19 = .ok (.getfield 48, 3) := by decide +kernel
theorem dX0_allDone_22 : decode cX0_allDone 22 = .ok (.iconst 1, 1) := by decide +kernel
theorem dX0_allDone_23 : decode cX0_allDone 23 = .ok (.if_icmp .ne 7, 3) := by decide +kernel
theorem dX0_allDone_26 : decode cX0_allDone 26 = .ok (.iconst 1, 1) := by decide +kernel
theorem dX0_allDone_27 : decode cX0_allDone 27 = .ok (.goto 4, 3) := by decide +kernel
theorem dX0_allDone_30 : decode cX0_allDone 30 = .ok (.iconst 0, 1) := by decide +kernel
theorem dX0_allDone_31 : decode cX0_allDone 31 = .ok (.iadd, 1) := by decide +kernel
theorem dX0_allDone_32 : decode cX0_allDone 32 = .ok (.istore_n 1, 1) := by decide +kernel
theorem dX0_allDone_33 : decode cX0_allDone 33 = .ok (.iinc 2 1, 3) := by decide +kernel
theorem dX0_allDone_36 : decode cX0_allDone 36 = .ok (.goto (-32), 3) := by decide +kernel
theorem dX0_allDone_39 : decode cX0_allDone 39 = .ok (.iload_n 1, 1) := by decide +kernel
theorem dX0_allDone_40 : decode cX0_allDone 40 = .ok (.ireturn, 1) := by decide +kernel
theorem dX0_allSent_0 : decode cX0_allSent 0 = .ok (.iconst 0, 1) := by decide +kernel
theorem dX0_allSent_1 : decode cX0_allSent 1 = .ok (.istore_n 1, 1) := by decide +kernel
theorem dX0_allSent_2 : decode cX0_allSent 2 = .ok (.iconst 0, 1) := by decide +kernel
theorem dX0_allSent_3 : decode cX0_allSent 3 = .ok (.istore_n 2, 1) := by decide +kernel
theorem dX0_allSent_4 : decode cX0_allSent 4 = .ok (.iload_n 2, 1) := by decide +kernel
theorem dX0_allSent_5 : decode cX0_allSent 5 = .ok (.aload_n 0, 1) := by decide +kernel
theorem dX0_allSent_6 : decode cX0_allSent 6 = .ok (.getfield 29, 3) := by decide +kernel
theorem dX0_allSent_9 : decode cX0_allSent 9 = .ok (.if_icmp .ge 21, 3) := by decide +kernel
theorem dX0_allSent_12 : decode cX0_allSent 12 = .ok (.iload_n 1, 1) := by decide +kernel
theorem dX0_allSent_13 : decode cX0_allSent 13 = .ok (.aload_n 0, 1) := by decide +kernel
theorem dX0_allSent_14 : decode cX0_allSent 14 = .ok (.getfield 20, 3) := by decide +kernel
theorem dX0_allSent_17 : decode cX0_allSent 17 = .ok (.iload_n 2, 1) := by decide +kernel
theorem dX0_allSent_18 : decode cX0_allSent 18 = .ok (.aaload, 1) := by decide +kernel
theorem dX0_allSent_19 : decode cX0_allSent 19 = .ok (.getfield 51, 3) := by decide +kernel
theorem dX0_allSent_22 : decode cX0_allSent 22 = .ok (.iadd, 1) := by decide +kernel
theorem dX0_allSent_23 : decode cX0_allSent 23 = .ok (.istore_n 1, 1) := by decide +kernel
theorem dX0_allSent_24 : decode cX0_allSent 24 = .ok (.iinc 2 1, 3) := by decide +kernel
theorem dX0_allSent_27 : decode cX0_allSent 27 = .ok (.goto (-23), 3) := by decide +kernel
theorem dX0_allSent_30 : decode cX0_allSent 30 = .ok (.iload_n 1, 1) := by decide +kernel
theorem dX0_allSent_31 : decode cX0_allSent 31 = .ok (.ireturn, 1) := by decide +kernel
theorem dX0_allLost_0 : decode cX0_allLost 0 = .ok (.iconst 0, 1) := by decide +kernel
theorem dX0_allLost_1 : decode cX0_allLost 1 = .ok (.istore_n 1, 1) := by decide +kernel
theorem dX0_allLost_2 : decode cX0_allLost 2 = .ok (.iconst 0, 1) := by decide +kernel
theorem dX0_allLost_3 : decode cX0_allLost 3 = .ok (.istore_n 2, 1) := by decide +kernel
theorem dX0_allLost_4 : decode cX0_allLost 4 = .ok (.iload_n 2, 1) := by decide +kernel
theorem dX0_allLost_5 : decode cX0_allLost 5 = .ok (.aload_n 0, 1) := by decide +kernel
theorem dX0_allLost_6 : decode cX0_allLost 6 = .ok (.getfield 29, 3) := by decide +kernel
theorem dX0_allLost_9 : decode cX0_allLost 9 = .ok (.if_icmp .ge 21, 3) := by decide +kernel
theorem dX0_allLost_12 : decode cX0_allLost 12 = .ok (.iload_n 1, 1) := by decide +kernel
theorem dX0_allLost_13 : decode cX0_allLost 13 = .ok (.aload_n 0, 1) := by decide +kernel
theorem dX0_allLost_14 : decode cX0_allLost 14 = .ok (.getfield 20, 3) := by decide +kernel
theorem dX0_allLost_17 : decode cX0_allLost 17 = .ok (.iload_n 2, 1) := by decide +kernel
theorem dX0_allLost_18 : decode cX0_allLost 18 = .ok (.aaload, 1) := by decide +kernel
theorem dX0_allLost_19 : decode cX0_allLost 19 = .ok (.getfield 54, 3) := by decide +kernel
theorem dX0_allLost_22 : decode cX0_allLost 22 = .ok (.iadd, 1) := by decide +kernel
theorem dX0_allLost_23 : decode cX0_allLost 23 = .ok (.istore_n 1, 1) := by decide +kernel
theorem dX0_allLost_24 : decode cX0_allLost 24 = .ok (.iinc 2 1, 3) := by decide +kernel
theorem dX0_allLost_27 : decode cX0_allLost 27 = .ok (.goto (-23), 3) := by decide +kernel
theorem dX0_allLost_30 : decode cX0_allLost 30 = .ok (.iload_n 1, 1) := by decide +kernel
theorem dX0_allLost_31 : decode cX0_allLost 31 = .ok (.ireturn, 1) := by decide +kernel
theorem dX0_read_0 : decode cX0_read 0 = .ok (.aload_n 0, 1) := by decide +kernel
theorem dX0_read_1 : decode cX0_read 1 = .ok (.getfield 12, 3) := by decide +kernel
theorem dX0_read_4 : decode cX0_read 4 = .ok (.invokevirtual 57, 3) := by decide +kernel
theorem dX0_read_7 : decode cX0_read 7 = .ok (.aload_n 0, 1) := by decide +kernel
theorem dX0_read_8 : decode cX0_read 8 = .ok (.iconst 0, 1) := by decide +kernel
theorem dX0_read_9 : decode cX0_read 9 = .ok (.putfield 29, 3) := by decide +kernel
theorem dX0_read_12 : decode cX0_read 12 = .ok (.aload_n 0, 1) := by decide +kernel
theorem dX0_read_13 : decode cX0_read 13 = .ok (.iconst 0, 1) := by decide +kernel
theorem dX0_read_14 : decode cX0_read 14 = .ok (.putfield 36, 3) := by decide +kernel
theorem dX0_read_17 : decode cX0_read 17 = .ok (.aload_n 1, 1) := by decide +kernel
theorem dX0_read_18 : decode cX0_read 18 = .ok (.iconst 0, 1) := by decide +kernel
theorem dX0_read_19 : decode cX0_read 19 = .ok (.putfield 60, 3) := by decide +kernel
theorem dX0_read_22 : decode cX0_read 22 = .ok (.iconst 0, 1) := by decide +kernel
theorem dX0_read_23 : decode cX0_read 23 = .ok (.istore_n 2, 1) := by decide +kernel
theorem dX0_read_24 : decode cX0_read 24 = .ok (.iload_n 2, 1) := by decide +kernel
theorem dX0_read_25 : decode cX0_read 25 = .ok (.sipush 240, 3) := by decide +kernel
theorem dX0_read_28 : decode cX0_read 28 = .ok (.if_icmp .ge 44, 3) := by decide +kernel
theorem dX0_read_31 : decode cX0_read 31 = .ok (.aload_n 1, 1) := by decide +kernel
theorem dX0_read_32 : decode cX0_read 32 = .ok (.getfield 60, 3) := by decide +kernel
theorem dX0_read_35 : decode cX0_read 35 = .ok (.aload_n 1, 1) := by decide +kernel
theorem dX0_read_36 : decode cX0_read 36 = .ok (.getfield 65, 3) := by decide +kernel
theorem dX0_read_39 : decode cX0_read 39 = .ok (.if_icmp .ge 33, 3) := by decide +kernel
theorem dX0_read_42 : decode cX0_read 42 = .ok (.aload_n 1, 1) := by decide +kernel
theorem dX0_read_43 : decode cX0_read 43 = .ok (.getfield 60, 3) := by decide +kernel
theorem dX0_read_46 : decode cX0_read 46 = .ok (.istore_n 3, 1) := by decide +kernel
theorem dX0_read_47 : decode cX0_read 47 = .ok (.aload_n 0, 1) := by decide +kernel
theorem dX0_read_48 : decode cX0_read 48 = .ok (.aload_n 1, 1) := by decide +kernel
theorem dX0_read_49 : decode cX0_read 49 = .ok (.invokevirtual 68, 3) := by decide +kernel
theorem dX0_read_52 : decode cX0_read 52 = .ok (.ifCond .eq 12, 3) := by decide +kernel
theorem dX0_read_55 : decode cX0_read 55 = .ok (.aload_n 1, 1) := by decide +kernel
theorem dX0_read_56 : decode cX0_read 56 = .ok (.ldc 72, 2) := by decide +kernel
theorem dX0_read_58 : decode cX0_read 58 = .ok (.invokevirtual 74, 3) := by decide +kernel
theorem dX0_read_61 : decode cX0_read 61 = .ok (.ifCond .ne 5, 3) := by decide +kernel
theorem dX0_read_64 : decode cX0_read 64 = .ok (.iload_n 3, 1) := by decide +kernel
theorem dX0_read_65 : decode cX0_read 65 = .ok (.ireturn, 1) := by decide +kernel
theorem dX0_read_66 : decode cX0_read 66 = .ok (.iinc 2 1, 3) := by decide +kernel
theorem dX0_read_69 : decode cX0_read 69 = .ok (.goto (-45), 3) := by decide +kernel
theorem dX0_read_72 : decode cX0_read 72 = .ok (.iconst 0, 1) := by decide +kernel
theorem dX0_read_73 : decode cX0_read 73 = .ok (.istore_n 2, 1) := by decide +kernel
theorem dX0_read_74 : decode cX0_read 74 = .ok (.iload_n 2, 1) := by decide +kernel
theorem dX0_read_75 : decode cX0_read 75 = .ok (.aload_n 0, 1) := by decide +kernel
theorem dX0_read_76 : decode cX0_read 76 = .ok (.getfield 29, 3) := by decide +kernel
theorem dX0_read_79 : decode cX0_read 79 = .ok (.if_icmp .ge 22, 3) := by decide +kernel
theorem dX0_read_82 : decode cX0_read 82 = .ok (.aload_n 0, 1) := by decide +kernel
theorem dX0_read_83 : decode cX0_read 83 = .ok (.getfield 20, 3) := by decide +kernel
theorem dX0_read_86 : decode cX0_read 86 = .ok (.iload_n 2, 1) := by decide +kernel
theorem dX0_read_87 : decode cX0_read 87 = .ok (.aaload, 1) := by decide +kernel
theorem dX0_read_88 : decode cX0_read 88 = .ok (.aload_n 0, 1) := by decide +kernel
theorem dX0_read_89 : decode cX0_read 89 = .ok (.getfield 12, 3) := by decide +kernel
theorem dX0_read_92 : decode cX0_read 92 = .ok (.invokevirtual 78, 3) := by decide +kernel
theorem dX0_read_95 : decode cX0_read 95 = .ok (.iinc 2 1, 3) := by decide +kernel
theorem dX0_read_98 : decode cX0_read 98 = .ok (.goto (-24), 3) := by decide +kernel
theorem dX0_read_101 : decode cX0_read 101 = .ok (.bipush (-4), 2) := by decide +kernel
theorem dX0_read_103 : decode cX0_read 103 = .ok (.ireturn, 1) := by decide +kernel
theorem dX0_readItem_0 : decode cX0_readItem 0 = .ok (.aload_n 1, 1) := by decide +kernel
theorem dX0_readItem_1 : decode cX0_readItem 1 = .ok (.ldc 81, 2) := by decide +kernel
theorem dX0_readItem_3 : decode cX0_readItem 3 = .ok (.invokevirtual 74, 3) := by decide +kernel
theorem dX0_readItem_6 : decode cX0_readItem 6 = .ok (.ifCond .eq 8, 3) := by decide +kernel
theorem dX0_readItem_9 : decode cX0_readItem 9 = .ok (.aload_n 0, 1) := by decide +kernel
theorem dX0_readItem_10 : decode cX0_readItem 10 = .ok (.invokevirtual 83, 3) := by decide +kernel
theorem dX0_readItem_13 : decode cX0_readItem 13 = .ok (.ireturn, 1) := by decide +kernel
theorem dX0_readItem_14 : decode cX0_readItem 14 = .ok (.aload_n 1, 1) := by decide +kernel
theorem dX0_readItem_15 : decode cX0_readItem 15 = .ok (.ldc 87, 2) := by decide +kernel
theorem dX0_readItem_17 : decode cX0_readItem 17 = .ok (.invokevirtual 74, 3) := by decide +kernel
theorem dX0_readItem_20 : decode cX0_readItem 20 = .ok (.ifCond .eq 9, 3) := by decide +kernel
theorem dX0_readItem_23 : decode cX0_readItem 23 = .ok (.aload_n 0, 1) := by decide +kernel
theorem dX0_readItem_24 : decode cX0_readItem 24 = .ok (.aload_n 1, 1) := by decide +kernel
theorem dX0_readItem_25 : decode cX0_readItem 25 = .ok (.invokevirtual 89, 3) := by decide +kernel
theorem dX0_readItem_28 : decode cX0_readItem 28 = .ok (.ireturn, 1) := by decide +kernel
theorem dX0_readItem_29 : decode cX0_readItem 29 = .ok (.aload_n 1, 1) := by decide +kernel
theorem dX0_readItem_30 : decode cX0_readItem 30 = .ok (.ldc 92, 2) := by decide +kernel
theorem dX0_readItem_32 : decode cX0_readItem 32 = .ok (.invokevirtual 74, 3) := by decide +kernel
theorem dX0_readItem_35 : decode cX0_readItem 35 = .ok (.ifCond .eq 9, 3) := by decide +kernel
theorem dX0_readItem_38 : decode cX0_readItem 38 = .ok (.aload_n 0, 1) := by decide +kernel
theorem dX0_readItem_39 : decode cX0_readItem 39 = .ok (.aload_n 1, 1) := by decide +kernel
theorem dX0_readItem_40 : decode cX0_readItem 40 = .ok (.invokevirtual 94, 3) := by decide +kernel
theorem dX0_readItem_43 : decode cX0_readItem 43 = .ok (.ireturn, 1) := by decide +kernel
theorem dX0_readItem_44 : decode cX0_readItem 44 = .ok (.aload_n 0, 1) := by decide +kernel
theorem dX0_readItem_45 : decode cX0_readItem 45 = .ok (.aload_n 1, 1) := by decide +kernel
theorem dX0_readItem_46 : decode cX0_readItem 46 = .ok (.invokevirtual 97, 3) := by decide +kernel
theorem dX0_readItem_49 : decode cX0_readItem 49 = .ok (.ireturn, 1) := by decide +kernel
theorem dX0_addWay_0 : decode cX0_addWay 0 = .ok (.aload_n 0, 1) := by decide +kernel
theorem dX0_addWay_1 : decode cX0_addWay 1 = .ok (.getfield 29, 3) := by decide +kernel
theorem dX0_addWay_4 : decode cX0_addWay 4 = .ok (.iconst 4, 1) := by decide +kernel
theorem dX0_addWay_5 : decode cX0_addWay 5 = .ok (.if_icmp .lt 5, 3) := by decide +kernel
theorem dX0_addWay_8 : decode cX0_addWay 8 = .ok (.iconst 0, 1) := by decide +kernel
theorem dX0_addWay_9 : decode cX0_addWay 9 = .ok (.ireturn, 1) := by decide +kernel
theorem dX0_addWay_10 : decode cX0_addWay 10 = .ok (.aload_n 0, 1) := by decide +kernel
theorem dX0_addWay_11 : decode cX0_addWay 11 = .ok (.getfield 20, 3) := by decide +kernel
theorem dX0_addWay_14 : decode cX0_addWay 14 = .ok (.aload_n 0, 1) := by decide +kernel
theorem dX0_addWay_15 : decode cX0_addWay 15 = .ok (.getfield 29, 3) := by decide +kernel
theorem dX0_addWay_18 : decode cX0_addWay 18 = .ok (.aaload, 1) := by decide +kernel
theorem dX0_addWay_19 : decode cX0_addWay 19 = .ok (.aload_n 0, 1) := by decide +kernel
theorem dX0_addWay_20 : decode cX0_addWay 20 = .ok (.getfield 29, 3) := by decide +kernel
theorem dX0_addWay_23 : decode cX0_addWay 23 = .ok (.invokevirtual 100, 3) := by decide +kernel
theorem dX0_addWay_26 : decode cX0_addWay 26 = .ok (.aload_n 0, 1) := by decide +kernel
theorem dX0_addWay_27 : decode cX0_addWay 27 = .ok (.dup, 1) := by decide +kernel
theorem dX0_addWay_28 : decode cX0_addWay 28 = .ok (.getfield 29, 3) := by decide +kernel
theorem dX0_addWay_31 : decode cX0_addWay 31 = .ok (.iconst 1, 1) := by decide +kernel
theorem dX0_addWay_32 : decode cX0_addWay 32 = .ok (.iadd, 1) := by decide +kernel
theorem dX0_addWay_33 : decode cX0_addWay 33 = .ok (.putfield 29, 3) := by decide +kernel
theorem dX0_addWay_36 : decode cX0_addWay 36 = .ok (.iconst 1, 1) := by decide +kernel
theorem dX0_addWay_37 : decode cX0_addWay 37 = .ok (.ireturn, 1) := by decide +kernel
theorem dX0_readHop_0 : decode cX0_readHop 0 = .ok (.aload_n 1, 1) := by decide +kernel
theorem dX0_readHop_1 : decode cX0_readHop 1 = .ok (.bipush 20, 2) := by decide +kernel
theorem dX0_readHop_3 : decode cX0_readHop 3 = .ok (.sipush 999, 3) := by decide +kernel
theorem dX0_readHop_6 : decode cX0_readHop 6 = .ok (.invokevirtual 103, 3) := by decide +kernel
theorem dX0_readHop_9 : decode cX0_readHop 9 = .ok (.istore_n 2, 1) := by decide +kernel
theorem dX0_readHop_10 : decode cX0_readHop 10 = .ok (.aload_n 0, 1) := by decide +kernel
theorem dX0_readHop_11 : decode cX0_readHop 11 = .ok (.getfield 29, 3) := by decide +kernel
theorem dX0_readHop_14 : decode cX0_readHop 14 = .ok (.ifCond .eq 18, 3) := by decide +kernel
theorem dX0_readHop_17 : decode cX0_readHop 17 = .ok (.iload_n 2, 1) := by decide +kernel
theorem dX0_readHop_18 : decode cX0_readHop 18 = .ok (.bipush (-4), 2) := by decide +kernel
theorem dX0_readHop_20 : decode cX0_readHop 20 = .ok (.if_icmp .eq 12, 3) := by decide +kernel
theorem dX0_readHop_23 : decode cX0_readHop 23 = .ok (.aload_n 1, 1) := by decide +kernel
theorem dX0_readHop_24 : decode cX0_readHop 24 = .ok (.ldc 106, 2) := by decide +kernel
theorem dX0_readHop_26 : decode cX0_readHop 26 = .ok (.invokevirtual 74, 3) := by decide +kernel
theorem dX0_readHop_29 : decode cX0_readHop 29 = .ok (.ifCond .ne 5, 3) := by decide +kernel
theorem dX0_readHop_32 : decode cX0_readHop 32 = .ok (.iconst 0, 1) := by decide +kernel
theorem dX0_readHop_33 : decode cX0_readHop 33 = .ok (.ireturn, 1) := by decide +kernel
theorem dX0_readHop_34 : decode cX0_readHop 34 = .ok (.aload_n 1, 1) := by decide +kernel
theorem dX0_readHop_35 : decode cX0_readHop 35 = .ok (.invokevirtual 108, 3) := by decide +kernel
theorem dX0_readHop_38 : decode cX0_readHop 38 = .ok (.istore_n 3, 1) := by decide +kernel
theorem dX0_readHop_39 : decode cX0_readHop 39 = .ok (.iload_n 3, 1) := by decide +kernel
theorem dX0_readHop_40 : decode cX0_readHop 40 = .ok (.bipush (-4), 2) := by decide +kernel
theorem dX0_readHop_42 : decode cX0_readHop 42 = .ok (.if_icmp .eq 26, 3) := by decide +kernel
theorem dX0_readHop_45 : decode cX0_readHop 45 = .ok (.aload_n 0, 1) := by decide +kernel
theorem dX0_readHop_46 : decode cX0_readHop 46 = .ok (.getfield 20, 3) := by decide +kernel
theorem dX0_readHop_49 : decode cX0_readHop 49 = .ok (.aload_n 0, 1) := by decide +kernel
theorem dX0_readHop_50 : decode cX0_readHop 50 = .ok (.getfield 29, 3) := by decide +kernel
theorem dX0_readHop_53 : decode cX0_readHop 53 = .ok (.iconst 1, 1) := by decide +kernel
theorem dX0_readHop_54 : decode cX0_readHop 54 = .ok (.isub, 1) := by decide +kernel
theorem dX0_readHop_55 : decode cX0_readHop 55 = .ok (.aaload, 1) := by decide +kernel
theorem dX0_readHop_56 : decode cX0_readHop 56 = .ok (.iload_n 2, 1) := by decide +kernel
theorem dX0_readHop_57 : decode cX0_readHop 57 = .ok (.iload_n 3, 1) := by decide +kernel
theorem dX0_readHop_58 : decode cX0_readHop 58 = .ok (.invokevirtual 112, 3) := by decide +kernel
theorem dX0_readHop_61 : decode cX0_readHop 61 = .ok (.ifCond .eq 7, 3) := by decide +kernel
theorem dX0_readHop_64 : decode cX0_readHop 64 = .ok (.iconst 1, 1) := by decide +kernel
theorem dX0_readHop_65 : decode cX0_readHop 65 = .ok (.goto 4, 3) := by decide +kernel
theorem dX0_readHop_68 : decode cX0_readHop 68 = .ok (.iconst 0, 1) := by decide +kernel
theorem dX0_readHop_69 : decode cX0_readHop 69 = .ok (.ireturn, 1) := by decide +kernel
theorem dX0_readLoss_0 : decode cX0_readLoss 0 = .ok (.aload_n 1, 1) := by decide +kernel
theorem dX0_readLoss_1 : decode cX0_readLoss 1 = .ok (.iconst 0, 1) := by decide +kernel
theorem dX0_readLoss_2 : decode cX0_readLoss 2 = .ok (.bipush 99, 2) := by decide +kernel
theorem dX0_readLoss_4 : decode cX0_readLoss 4 = .ok (.invokevirtual 103, 3) := by decide +kernel
theorem dX0_readLoss_7 : decode cX0_readLoss 7 = .ok (.istore_n 2, 1) := by decide +kernel
theorem dX0_readLoss_8 : decode cX0_readLoss 8 = .ok (.aload_n 0, 1) := by decide +kernel
theorem dX0_readLoss_9 : decode cX0_readLoss 9 = .ok (.getfield 29, 3) := by decide +kernel
theorem dX0_readLoss_12 : decode cX0_readLoss 12 = .ok (.ifCond .eq 9, 3) := by decide +kernel
theorem dX0_readLoss_15 : decode cX0_readLoss 15 = .ok (.iload_n 2, 1) := by decide +kernel
theorem dX0_readLoss_16 : decode cX0_readLoss 16 = .ok (.bipush (-4), 2) := by decide +kernel
theorem dX0_readLoss_18 : decode cX0_readLoss 18 = .ok (.if_icmp .ne 5, 3) := by decide +kernel
theorem dX0_readLoss_21 : decode cX0_readLoss 21 = .ok (.iconst 0, 1) := by decide +kernel
theorem dX0_readLoss_22 : decode cX0_readLoss 22 = .ok (.ireturn, 1) := by decide +kernel
theorem dX0_readLoss_23 : decode cX0_readLoss 23 = .ok (.aload_n 0, 1) := by decide +kernel
theorem dX0_readLoss_24 : decode cX0_readLoss 24 = .ok (.getfield 20, 3) := by decide +kernel
theorem dX0_readLoss_27 : decode cX0_readLoss 27 = .ok (.aload_n 0, 1) := by decide +kernel
theorem dX0_readLoss_28 : decode cX0_readLoss 28 = .ok (.getfield 29, 3) := by decide +kernel
theorem dX0_readLoss_31 : decode cX0_readLoss 31 = .ok (.iconst 1, 1) := by decide +kernel
theorem dX0_readLoss_32 : decode cX0_readLoss 32 = .ok (.isub, 1) := by decide +kernel
theorem dX0_readLoss_33 : decode cX0_readLoss 33 = .ok (.aaload, 1) := by decide +kernel
theorem dX0_readLoss_34 : decode cX0_readLoss 34 = .ok (.iload_n 2, 1) := by decide +kernel
theorem dX0_readLoss_35 : decode cX0_readLoss 35 = .ok (.putfield 116, 3) := by decide +kernel
theorem dX0_readLoss_38 : decode cX0_readLoss 38 = .ok (.iconst 1, 1) := by decide +kernel
theorem dX0_readLoss_39 : decode cX0_readLoss 39 = .ok (.ireturn, 1) := by decide +kernel
theorem dX0_readRule_0 : decode cX0_readRule 0 = .ok (.aload_n 1, 1) := by decide +kernel
theorem dX0_readRule_1 : decode cX0_readRule 1 = .ok (.ldc 119, 2) := by decide +kernel
theorem dX0_readRule_3 : decode cX0_readRule 3 = .ok (.invokevirtual 74, 3) := by decide +kernel
theorem dX0_readRule_6 : decode cX0_readRule 6 = .ok (.ifCond .eq 37, 3) := by decide +kernel
theorem dX0_readRule_9 : decode cX0_readRule 9 = .ok (.aload_n 0, 1) := by decide +kernel
theorem dX0_readRule_10 : decode cX0_readRule 10 = .ok (.getfield 12, 3) := by decide +kernel
theorem dX0_readRule_13 : decode cX0_readRule 13 = .ok (.aload_n 1, 1) := by decide +kernel
theorem dX0_readRule_14 : decode cX0_readRule 14 = .ok (.bipush 20, 2) := by decide +kernel
theorem dX0_readRule_16 : decode cX0_readRule 16 = .ok (.sipush 200, 3) := by decide +kernel
theorem dX0_readRule_19 : decode cX0_readRule 19 = .ok (.invokevirtual 103, 3) := by decide +kernel
theorem dX0_readRule_22 : decode cX0_readRule 22 = .ok (.putfield 121, 3) := by decide +kernel
theorem dX0_readRule_25 : decode cX0_readRule 25 = .ok (.aload_n 0, 1) := by decide +kernel
theorem dX0_readRule_26 : decode cX0_readRule 26 = .ok (.getfield 12, 3) := by decide +kernel
theorem dX0_readRule_29 : decode cX0_readRule 29 = .ok (.getfield 121, 3) := by decide +kernel
theorem dX0_readRule_32 : decode cX0_readRule 32 = .ok (.bipush (-4), 2) := by decide +kernel
theorem dX0_readRule_34 : decode cX0_readRule 34 = .ok (.if_icmp .eq 7, 3) := by decide +kernel
theorem dX0_readRule_37 : decode cX0_readRule 37 = .ok (.iconst 1, 1) := by decide +kernel
theorem dX0_readRule_38 : decode cX0_readRule 38 = .ok (.goto 4, 3) := by decide +kernel
theorem dX0_readRule_41 : decode cX0_readRule 41 = .ok (.iconst 0, 1) := by decide +kernel
theorem dX0_readRule_42 : decode cX0_readRule 42 = .ok (.ireturn, 1) := by decide +kernel
theorem dX0_readRule_43 : decode cX0_readRule 43 = .ok (.aload_n 1, 1) := by decide +kernel
theorem dX0_readRule_44 : decode cX0_readRule 44 = .ok (.ldc 124, 2) := by decide +kernel
theorem dX0_readRule_46 : decode cX0_readRule 46 = .ok (.invokevirtual 74, 3) := by decide +kernel
theorem dX0_readRule_49 : decode cX0_readRule 49 = .ok (.ifCond .eq 38, 3) := by decide +kernel
theorem dX0_readRule_52 : decode cX0_readRule 52 = .ok (.aload_n 0, 1) := by decide +kernel
theorem dX0_readRule_53 : decode cX0_readRule 53 = .ok (.getfield 12, 3) := by decide +kernel
theorem dX0_readRule_56 : decode cX0_readRule 56 = .ok (.aload_n 1, 1) := by decide +kernel
theorem dX0_readRule_57 : decode cX0_readRule 57 = .ok (.sipush 200, 3) := by decide +kernel
theorem dX0_readRule_60 : decode cX0_readRule 60 = .ok (.sipush 999, 3) := by decide +kernel
theorem dX0_readRule_63 : decode cX0_readRule 63 = .ok (.invokevirtual 103, 3) := by decide +kernel
theorem dX0_readRule_66 : decode cX0_readRule 66 = .ok (.putfield 126, 3) := by decide +kernel
theorem dX0_readRule_69 : decode cX0_readRule 69 = .ok (.aload_n 0, 1) := by decide +kernel
theorem dX0_readRule_70 : decode cX0_readRule 70 = .ok (.getfield 12, 3) := by decide +kernel
theorem dX0_readRule_73 : decode cX0_readRule 73 = .ok (.getfield 126, 3) := by decide +kernel
theorem dX0_readRule_76 : decode cX0_readRule 76 = .ok (.bipush (-4), 2) := by decide +kernel
theorem dX0_readRule_78 : decode cX0_readRule 78 = .ok (.if_icmp .eq 7, 3) := by decide +kernel
theorem dX0_readRule_81 : decode cX0_readRule 81 = .ok (.iconst 1, 1) := by decide +kernel
theorem dX0_readRule_82 : decode cX0_readRule 82 = .ok (.goto 4, 3) := by decide +kernel
theorem dX0_readRule_85 : decode cX0_readRule 85 = .ok (.iconst 0, 1) := by decide +kernel
theorem dX0_readRule_86 : decode cX0_readRule 86 = .ok (.ireturn, 1) := by decide +kernel
theorem dX0_readRule_87 : decode cX0_readRule 87 = .ok (.aload_n 1, 1) := by decide +kernel
theorem dX0_readRule_88 : decode cX0_readRule 88 = .ok (.ldc 129, 2) := by decide +kernel
theorem dX0_readRule_90 : decode cX0_readRule 90 = .ok (.invokevirtual 74, 3) := by decide +kernel
theorem dX0_readRule_93 : decode cX0_readRule 93 = .ok (.ifCond .eq 35, 3) := by decide +kernel
theorem dX0_readRule_96 : decode cX0_readRule 96 = .ok (.aload_n 0, 1) := by decide +kernel
theorem dX0_readRule_97 : decode cX0_readRule 97 = .ok (.getfield 12, 3) := by decide +kernel
theorem dX0_readRule_100 : decode cX0_readRule 100 = .ok (.aload_n 1, 1) := by decide +kernel
theorem dX0_readRule_101 : decode cX0_readRule 101 = .ok (.iconst 1, 1) := by decide +kernel
theorem dX0_readRule_102 : decode cX0_readRule 102 = .ok (.bipush 99, 2) := by decide +kernel
theorem dX0_readRule_104 : decode cX0_readRule 104 = .ok (.invokevirtual 103, 3) := by decide +kernel
theorem dX0_readRule_107 : decode cX0_readRule 107 = .ok (.putfield 131, 3) := by decide +kernel
theorem dX0_readRule_110 : decode cX0_readRule 110 = .ok (.aload_n 0, 1) := by decide +kernel
theorem dX0_readRule_111 : decode cX0_readRule 111 = .ok (.getfield 12, 3) := by decide +kernel
theorem dX0_readRule_114 : decode cX0_readRule 114 = .ok (.getfield 131, 3) := by decide +kernel
theorem dX0_readRule_117 : decode cX0_readRule 117 = .ok (.bipush (-4), 2) := by decide +kernel
theorem dX0_readRule_119 : decode cX0_readRule 119 = .ok (.if_icmp .eq 7, 3) := by decide +kernel
theorem dX0_readRule_122 : decode cX0_readRule 122 = .ok (.iconst 1, 1) := by decide +kernel
theorem dX0_readRule_123 : decode cX0_readRule 123 = .ok (.goto 4, 3) := by decide +kernel
theorem dX0_readRule_126 : decode cX0_readRule 126 = .ok (.iconst 0, 1) := by decide +kernel
theorem dX0_readRule_127 : decode cX0_readRule 127 = .ok (.ireturn, 1) := by decide +kernel
theorem dX0_readRule_128 : decode cX0_readRule 128 = .ok (.aload_n 1, 1) := by decide +kernel
theorem dX0_readRule_129 : decode cX0_readRule 129 = .ok (.ldc 134, 2) := by decide +kernel
theorem dX0_readRule_131 : decode cX0_readRule 131 = .ok (.invokevirtual 74, 3) := by decide +kernel
theorem dX0_readRule_134 : decode cX0_readRule 134 = .ok (.ifCond .eq 32, 3) := by decide +kernel
theorem dX0_readRule_137 : decode cX0_readRule 137 = .ok (.aload_n 0, 1) := by decide +kernel
theorem dX0_readRule_138 : decode cX0_readRule 138 = .ok (.getfield 12, 3) := by decide +kernel
theorem dX0_readRule_141 : decode cX0_readRule 141 = .ok (.aload_n 1, 1) := by decide +kernel
theorem dX0_readRule_142 : decode cX0_readRule 142 = .ok (.invokevirtual 136, 3) := by decide +kernel
theorem dX0_readRule_145 : decode cX0_readRule 145 = .ok (.putfield 139, 3) := by decide +kernel
theorem dX0_readRule_148 : decode cX0_readRule 148 = .ok (.aload_n 0, 1) := by decide +kernel
theorem dX0_readRule_149 : decode cX0_readRule 149 = .ok (.getfield 12, 3) := by decide +kernel
theorem dX0_readRule_152 : decode cX0_readRule 152 = .ok (.getfield 139, 3) := by decide +kernel
theorem dX0_readRule_155 : decode cX0_readRule 155 = .ok (.bipush (-4), 2) := by decide +kernel
theorem dX0_readRule_157 : decode cX0_readRule 157 = .ok (.if_icmp .eq 7, 3) := by decide +kernel
theorem dX0_readRule_160 : decode cX0_readRule 160 = .ok (.iconst 1, 1) := by decide +kernel
theorem dX0_readRule_161 : decode cX0_readRule 161 = .ok (.goto 4, 3) := by decide +kernel
theorem dX0_readRule_164 : decode cX0_readRule 164 = .ok (.iconst 0, 1) := by decide +kernel
theorem dX0_readRule_165 : decode cX0_readRule 165 = .ok (.ireturn, 1) := by decide +kernel
theorem dX0_readRule_166 : decode cX0_readRule 166 = .ok (.aload_n 1, 1) := by decide +kernel
theorem dX0_readRule_167 : decode cX0_readRule 167 = .ok (.ldc 142, 2) := by decide +kernel
theorem dX0_readRule_169 : decode cX0_readRule 169 = .ok (.invokevirtual 74, 3) := by decide +kernel
theorem dX0_readRule_172 : decode cX0_readRule 172 = .ok (.ifCond .eq 36, 3) := by decide +kernel
theorem dX0_readRule_175 : decode cX0_readRule 175 = .ok (.aload_n 0, 1) := by decide +kernel
theorem dX0_readRule_176 : decode cX0_readRule 176 = .ok (.getfield 12, 3) := by decide +kernel
theorem dX0_readRule_179 : decode cX0_readRule 179 = .ok (.aload_n 1, 1) := by decide +kernel
theorem dX0_readRule_180 : decode cX0_readRule 180 = .ok (.iconst 0, 1) := by decide +kernel
theorem dX0_readRule_181 : decode cX0_readRule 181 = .ok (.sipush 9999, 3) := by decide +kernel
theorem dX0_readRule_184 : decode cX0_readRule 184 = .ok (.invokevirtual 103, 3) := by decide +kernel
theorem dX0_readRule_187 : decode cX0_readRule 187 = .ok (.putfield 144, 3) := by decide +kernel
theorem dX0_readRule_190 : decode cX0_readRule 190 = .ok (.aload_n 0, 1) := by decide +kernel
theorem dX0_readRule_191 : decode cX0_readRule 191 = .ok (.getfield 12, 3) := by decide +kernel
theorem dX0_readRule_194 : decode cX0_readRule 194 = .ok (.getfield 144, 3) := by decide +kernel
theorem dX0_readRule_197 : decode cX0_readRule 197 = .ok (.bipush (-4), 2) := by decide +kernel
theorem dX0_readRule_199 : decode cX0_readRule 199 = .ok (.if_icmp .eq 7, 3) := by decide +kernel
theorem dX0_readRule_202 : decode cX0_readRule 202 = .ok (.iconst 1, 1) := by decide +kernel
theorem dX0_readRule_203 : decode cX0_readRule 203 = .ok (.goto 4, 3) := by decide +kernel
theorem dX0_readRule_206 : decode cX0_readRule 206 = .ok (.iconst 0, 1) := by decide +kernel
theorem dX0_readRule_207 : decode cX0_readRule 207 = .ok (.ireturn, 1) := by decide +kernel
theorem dX0_readRule_208 : decode cX0_readRule 208 = .ok (.iconst 0, 1) := by decide +kernel
theorem dX0_readRule_209 : decode cX0_readRule 209 = .ok (.ireturn, 1) := by decide +kernel
theorem dX1_init_0 : decode cX1_init 0 = .ok (.aload_n 0, 1) := by decide +kernel
theorem dX1_init_1 : decode cX1_init 1 = .ok (.invokespecial 3, 3) := by decide +kernel
theorem dX1_init_4 : decode cX1_init 4 = .ok (.return_, 1) := by decide +kernel
theorem dX1_clear_0 : decode cX1_clear 0 = .ok (.aload_n 0, 1) := by decide +kernel
theorem dX1_clear_1 : decode cX1_clear 1 = .ok (.bipush 60, 2) := by decide +kernel
theorem dX1_clear_3 : decode cX1_clear 3 = .ok (.putfield 9, 3) := by decide +kernel
theorem dX1_clear_6 : decode cX1_clear 6 = .ok (.aload_n 0, 1) := by decide +kernel
theorem dX1_clear_7 : decode cX1_clear 7 = .ok (.sipush 900, 3) := by decide +kernel
theorem dX1_clear_10 : decode cX1_clear 10 = .ok (.putfield 15, 3) := by decide +kernel
theorem dX1_clear_13 : decode cX1_clear 13 = .ok (.aload_n 0, 1) := by decide +kernel
theorem dX1_clear_14 : decode cX1_clear 14 = .ok (.bipush 20, 2) := by decide +kernel
theorem dX1_clear_16 : decode cX1_clear 16 = .ok (.putfield 18, 3) := by decide +kernel
theorem dX1_clear_19 : decode cX1_clear 19 = .ok (.aload_n 0, 1) := by decide +kernel
theorem dX1_clear_20 : decode cX1_clear 20 = .ok (.iconst 1, 1) := by decide +kernel
theorem dX1_clear_21 : decode cX1_clear 21 = .ok (.putfield 21, 3) := by decide +kernel
theorem dX1_clear_24 : decode cX1_clear 24 = .ok (.aload_n 0, 1) := by decide +kernel
theorem dX1_clear_25 : decode cX1_clear 25 = .ok (.iconst 0, 1) := by decide +kernel
theorem dX1_clear_26 : decode cX1_clear 26 = .ok (.putfield 24, 3) := by decide +kernel
theorem dX1_clear_29 : decode cX1_clear 29 = .ok (.return_, 1) := by decide +kernel
theorem dX1_copy_0 : decode cX1_copy 0 = .ok (.aload_n 0, 1) := by decide +kernel
theorem dX1_copy_1 : decode cX1_copy 1 = .ok (.aload_n 1, 1) := by decide +kernel
theorem dX1_copy_2 : decode cX1_copy 2 = .ok (.getfield 9, 3) := by decide +kernel
theorem dX1_copy_5 : decode cX1_copy 5 = .ok (.putfield 9, 3) := by decide +kernel
theorem dX1_copy_8 : decode cX1_copy 8 = .ok (.aload_n 0, 1) := by decide +kernel
theorem dX1_copy_9 : decode cX1_copy 9 = .ok (.aload_n 1, 1) := by decide +kernel
theorem dX1_copy_10 : decode cX1_copy 10 = .ok (.getfield 15, 3) := by decide +kernel
theorem dX1_copy_13 : decode cX1_copy 13 = .ok (.putfield 15, 3) := by decide +kernel
theorem dX1_copy_16 : decode cX1_copy 16 = .ok (.aload_n 0, 1) := by decide +kernel
theorem dX1_copy_17 : decode cX1_copy 17 = .ok (.aload_n 1, 1) := by decide +kernel
theorem dX1_copy_18 : decode cX1_copy 18 = .ok (.getfield 18, 3) := by decide +kernel
theorem dX1_copy_21 : decode cX1_copy 21 = .ok (.putfield 18, 3) := by decide +kernel
theorem dX1_copy_24 : decode cX1_copy 24 = .ok (.aload_n 0, 1) := by decide +kernel
theorem dX1_copy_25 : decode cX1_copy 25 = .ok (.aload_n 1, 1) := by decide +kernel
theorem dX1_copy_26 : decode cX1_copy 26 = .ok (.getfield 21, 3) := by decide +kernel
theorem dX1_copy_29 : decode cX1_copy 29 = .ok (.putfield 21, 3) := by decide +kernel
theorem dX1_copy_32 : decode cX1_copy 32 = .ok (.aload_n 0, 1) := by decide +kernel
theorem dX1_copy_33 : decode cX1_copy 33 = .ok (.aload_n 1, 1) := by decide +kernel
theorem dX1_copy_34 : decode cX1_copy 34 = .ok (.getfield 24, 3) := by decide +kernel
theorem dX1_copy_37 : decode cX1_copy 37 = .ok (.putfield 24, 3) := by decide +kernel
theorem dX1_copy_40 : decode cX1_copy 40 = .ok (.return_, 1) := by decide +kernel
theorem dX1_trusts_0 : decode cX1_trusts 0 = .ok (.aload_n 0, 1) := by decide +kernel
theorem dX1_trusts_1 : decode cX1_trusts 1 = .ok (.getfield 21, 3) := by decide +kernel
theorem dX1_trusts_4 : decode cX1_trusts 4 = .ok (.lookupswitch 49 #[(0, 28), (1, 30)], 28) := by decide +kernel
theorem dX1_trusts_32 : decode cX1_trusts 32 = .ok (.iconst 1, 1) := by decide +kernel
theorem dX1_trusts_33 : decode cX1_trusts 33 = .ok (.ireturn, 1) := by decide +kernel
theorem dX1_trusts_34 : decode cX1_trusts 34 = .ok (.iload_n 1, 1) := by decide +kernel
theorem dX1_trusts_35 : decode cX1_trusts 35 = .ok (.aload_n 0, 1) := by decide +kernel
theorem dX1_trusts_36 : decode cX1_trusts 36 = .ok (.getfield 9, 3) := by decide +kernel
theorem dX1_trusts_39 : decode cX1_trusts 39 = .ok (.if_icmp .lt 12, 3) := by decide +kernel
theorem dX1_trusts_42 : decode cX1_trusts 42 = .ok (.iload_n 1, 1) := by decide +kernel
theorem dX1_trusts_43 : decode cX1_trusts 43 = .ok (.iload_n 2, 1) := by decide +kernel
theorem dX1_trusts_44 : decode cX1_trusts 44 = .ok (.if_icmp .ge 7, 3) := by decide +kernel
theorem dX1_trusts_47 : decode cX1_trusts 47 = .ok (.iconst 1, 1) := by decide +kernel
theorem dX1_trusts_48 : decode cX1_trusts 48 = .ok (.goto 4, 3) := by decide +kernel
theorem dX1_trusts_51 : decode cX1_trusts 51 = .ok (.iconst 0, 1) := by decide +kernel
theorem dX1_trusts_52 : decode cX1_trusts 52 = .ok (.ireturn, 1) := by decide +kernel
theorem dX1_trusts_53 : decode cX1_trusts 53 = .ok (.iconst 0, 1) := by decide +kernel
theorem dX1_trusts_54 : decode cX1_trusts 54 = .ok (.ireturn, 1) := by decide +kernel
theorem dX2_init_0 : decode cX2_init 0 = .ok (.aload_n 0, 1) := by decide +kernel
theorem dX2_init_1 : decode cX2_init 1 = .ok (.invokespecial 3, 3) := by decide +kernel
theorem dX2_init_4 : decode cX2_init 4 = .ok (.aload_n 0, 1) := by decide +kernel
theorem dX2_init_5 : decode cX2_init 5 = .ok (.sipush 240, 3) := by decide +kernel
theorem dX2_init_8 : decode cX2_init 8 = .ok (.newarray .char, 2) := by decide +kernel
theorem dX2_init_10 : decode cX2_init 10 = .ok (.putfield 9, 3) := by decide +kernel
theorem dX2_init_13 : decode cX2_init 13 = .ok (.return_, 1) := by decide +kernel
theorem dX2_append_0 : decode cX2_append 0 = .ok (.aload_n 0, 1) := by decide +kernel
theorem dX2_append_1 : decode cX2_append 1 = .ok (.getfield 15, 3) := by decide +kernel
theorem dX2_append_4 : decode cX2_append 4 = .ok (.sipush 240, 3) := by decide +kernel
theorem dX2_append_7 : decode cX2_append 7 = .ok (.if_icmp .ge 23, 3) := by decide +kernel
theorem dX2_append_10 : decode cX2_append 10 = .ok (.aload_n 0, 1) := by decide +kernel
theorem dX2_append_11 : decode cX2_append 11 = .ok (.getfield 9, 3) := by decide +kernel
theorem dX2_append_14 : decode cX2_append 14 = .ok (.aload_n 0, 1) := by decide +kernel
theorem dX2_append_15 : decode cX2_append 15 = .ok (.getfield 15, 3) := by decide +kernel
theorem dX2_append_18 : decode cX2_append 18 = .ok (.iload_n 1, 1) := by decide +kernel
theorem dX2_append_19 : decode cX2_append 19 = .ok (.castore, 1) := by decide +kernel
theorem dX2_append_20 : decode cX2_append 20 = .ok (.aload_n 0, 1) := by decide +kernel
theorem dX2_append_21 : decode cX2_append 21 = .ok (.dup, 1) := by decide +kernel
theorem dX2_append_22 : decode cX2_append 22 = .ok (.getfield 15, 3) := by decide +kernel
theorem dX2_append_25 : decode cX2_append 25 = .ok (.iconst 1, 1) := by decide +kernel
theorem dX2_append_26 : decode cX2_append 26 = .ok (.iadd, 1) := by decide +kernel
theorem dX2_append_27 : decode cX2_append 27 = .ok (.putfield 15, 3) := by decide +kernel
theorem dX2_append_30 : decode cX2_append 30 = .ok (.return_, 1) := by decide +kernel
theorem dX2_take_0 : decode cX2_take 0 = .ok (.aload_n 0, 1) := by decide +kernel
theorem dX2_take_1 : decode cX2_take 1 = .ok (.getfield 19, 3) := by decide +kernel
theorem dX2_take_4 : decode cX2_take 4 = .ok (.aload_n 1, 1) := by decide +kernel
theorem dX2_take_5 : decode cX2_take 5 = .ok (.invokevirtual 22, 3) := by decide +kernel
theorem dX2_take_8 : decode cX2_take 8 = .ok (.iadd, 1) := by decide +kernel
theorem dX2_take_9 : decode cX2_take 9 = .ok (.istore_n 2, 1) := by decide +kernel
theorem dX2_take_10 : decode cX2_take 10 = .ok (.iload_n 2, 1) := by decide +kernel
theorem dX2_take_11 : decode cX2_take 11 = .ok (.aload_n 0, 1) := by decide +kernel
theorem dX2_take_12 : decode cX2_take 12 = .ok (.getfield 15, 3) := by decide +kernel
theorem dX2_take_15 : decode cX2_take 15 = .ok (.if_icmp .le 5, 3) := by decide +kernel
theorem dX2_take_18 : decode cX2_take 18 = .ok (.iconst 0, 1) := by decide +kernel
theorem dX2_take_19 : decode cX2_take 19 = .ok (.ireturn, 1) := by decide +kernel
theorem dX2_take_20 : decode cX2_take 20 = .ok (.iconst 0, 1) := by decide +kernel
theorem dX2_take_21 : decode cX2_take 21 = .ok (.istore_n 3, 1) := by decide +kernel
theorem dX2_take_22 : decode cX2_take 22 = .ok (.iload_n 3, 1) := by decide +kernel
theorem dX2_take_23 : decode cX2_take 23 = .ok (.aload_n 1, 1) := by decide +kernel
theorem dX2_take_24 : decode cX2_take 24 = .ok (.invokevirtual 22, 3) := by decide +kernel
theorem dX2_take_27 : decode cX2_take 27 = .ok (.if_icmp .ge 30, 3) := by decide +kernel
theorem dX2_take_30 : decode cX2_take 30 = .ok (.aload_n 0, 1) := by decide +kernel
theorem dX2_take_31 : decode cX2_take 31 = .ok (.getfield 9, 3) := by decide +kernel
theorem dX2_take_34 : decode cX2_take 34 = .ok (.aload_n 0, 1) := by decide +kernel
theorem dX2_take_35 : decode cX2_take 35 = .ok (.getfield 19, 3) := by decide +kernel
theorem dX2_take_38 : decode cX2_take 38 = .ok (.iload_n 3, 1) := by decide +kernel
theorem dX2_take_39 : decode cX2_take 39 = .ok (.iadd, 1) := by decide +kernel
theorem dX2_take_40 : decode cX2_take 40 = .ok (.caload, 1) := by decide +kernel
theorem dX2_take_41 : decode cX2_take 41 = .ok (.aload_n 1, 1) := by decide +kernel
theorem dX2_take_42 : decode cX2_take 42 = .ok (.iload_n 3, 1) := by decide +kernel
theorem dX2_take_43 : decode cX2_take 43 = .ok (.invokevirtual 27, 3) := by decide +kernel
theorem dX2_take_46 : decode cX2_take 46 = .ok (.if_icmp .eq 5, 3) := by decide +kernel
theorem dX2_take_49 : decode cX2_take 49 = .ok (.iconst 0, 1) := by decide +kernel
theorem dX2_take_50 : decode cX2_take 50 = .ok (.ireturn, 1) := by decide +kernel
theorem dX2_take_51 : decode cX2_take 51 = .ok (.iinc 3 1, 3) := by decide +kernel
theorem dX2_take_54 : decode cX2_take 54 = .ok (.goto (-32), 3) := by decide +kernel
theorem dX2_take_57 : decode cX2_take 57 = .ok (.aload_n 0, 1) := by decide +kernel
theorem dX2_take_58 : decode cX2_take 58 = .ok (.iload_n 2, 1) := by decide +kernel
theorem dX2_take_59 : decode cX2_take 59 = .ok (.putfield 19, 3) := by decide +kernel
theorem dX2_take_62 : decode cX2_take 62 = .ok (.iconst 1, 1) := by decide +kernel
theorem dX2_take_63 : decode cX2_take 63 = .ok (.ireturn, 1) := by decide +kernel
theorem dX2_takeNumber_0 : decode cX2_takeNumber 0 = .ok (.iconst 0, 1) := by decide +kernel
theorem dX2_takeNumber_1 : decode cX2_takeNumber 1 = .ok (.istore_n 3, 1) := by decide +kernel
theorem dX2_takeNumber_2 : decode cX2_takeNumber 2 = .ok (.iconst 0, 1) := by decide +kernel
theorem dX2_takeNumber_3 : decode cX2_takeNumber 3 = .ok (.istore 4, 2) := by decide +kernel
theorem dX2_takeNumber_5 : decode cX2_takeNumber 5 = .ok (.iload 4, 2) := by decide +kernel
theorem dX2_takeNumber_7 : decode cX2_takeNumber 7 = .ok (.iconst 4, 1) := by decide +kernel
theorem dX2_takeNumber_8 : decode cX2_takeNumber 8 = .ok (.if_icmp .ge 76, 3) := by decide +kernel
theorem dX2_takeNumber_11 : decode cX2_takeNumber 11 = .ok (.aload_n 0, 1) := by decide +kernel
theorem dX2_takeNumber_12 : decode cX2_takeNumber 12 = .ok (.getfield 19, 3) := by decide +kernel
theorem dX2_takeNumber_15 : decode cX2_takeNumber 15 = .ok (.aload_n 0, 1) := by decide +kernel
theorem dX2_takeNumber_16 : decode cX2_takeNumber 16 = .ok (.getfield 15, 3) := by decide +kernel
theorem dX2_takeNumber_19 : decode cX2_takeNumber 19 = .ok (.if_icmp .ge 65, 3) := by decide +kernel
theorem dX2_takeNumber_22 : decode cX2_takeNumber 22 = .ok (.aload_n 0, 1) := by decide +kernel
theorem dX2_takeNumber_23 : decode cX2_takeNumber 23 = .ok (.getfield 9, 3) := by decide +kernel
theorem dX2_takeNumber_26 : decode cX2_takeNumber 26 = .ok (.aload_n 0, 1) := by decide +kernel
theorem dX2_takeNumber_27 : decode cX2_takeNumber 27 = .ok (.getfield 19, 3) := by decide +kernel
theorem dX2_takeNumber_30 : decode cX2_takeNumber 30 = .ok (.caload, 1) := by decide +kernel
theorem dX2_takeNumber_31 : decode cX2_takeNumber 31 = .ok (.bipush 48, 2) := by decide +kernel
theorem dX2_takeNumber_33 : decode cX2_takeNumber 33 = .ok (.if_icmp .lt 51, 3) := by decide +kernel
theorem dX2_takeNumber_36 : decode cX2_takeNumber 36 = .ok (.aload_n 0, 1) := by decide +kernel
theorem dX2_takeNumber_37 : decode cX2_takeNumber 37 = .ok (.getfield 9, 3) := by decide +kernel
theorem dX2_takeNumber_40 : decode cX2_takeNumber 40 = .ok (.aload_n 0, 1) := by decide +kernel
theorem dX2_takeNumber_41 : decode cX2_takeNumber 41 = .ok (.getfield 19, 3) := by decide +kernel
theorem dX2_takeNumber_44 : decode cX2_takeNumber 44 = .ok (.caload, 1) := by decide +kernel
theorem dX2_takeNumber_45 : decode cX2_takeNumber 45 = .ok (.bipush 57, 2) := by decide +kernel
theorem dX2_takeNumber_47 : decode cX2_takeNumber 47 = .ok (.if_icmp .gt 37, 3) := by decide +kernel
theorem dX2_takeNumber_50 : decode cX2_takeNumber 50 = .ok (.iload_n 3, 1) := by decide +kernel
theorem dX2_takeNumber_51 : decode cX2_takeNumber 51 = .ok (.bipush 10, 2) := by decide +kernel
theorem dX2_takeNumber_53 : decode cX2_takeNumber 53 = .ok (.imul, 1) := by decide +kernel
theorem dX2_takeNumber_54 : decode cX2_takeNumber 54 = .ok (.aload_n 0, 1) := by decide +kernel
theorem dX2_takeNumber_55 : decode cX2_takeNumber 55 = .ok (.getfield 9, 3) := by decide +kernel
theorem dX2_takeNumber_58 : decode cX2_takeNumber 58 = .ok (.aload_n 0, 1) := by decide +kernel
theorem dX2_takeNumber_59 : decode cX2_takeNumber 59 = .ok (.getfield 19, 3) := by decide +kernel
theorem dX2_takeNumber_62 : decode cX2_takeNumber 62 = .ok (.caload, 1) := by decide +kernel
theorem dX2_takeNumber_63 : decode cX2_takeNumber 63 = .ok (.bipush 48, 2) := by decide +kernel
theorem dX2_takeNumber_65 : decode cX2_takeNumber 65 = .ok (.isub, 1) := by decide +kernel
theorem dX2_takeNumber_66 : decode cX2_takeNumber 66 = .ok (.iadd, 1) := by decide +kernel
theorem dX2_takeNumber_67 : decode cX2_takeNumber 67 = .ok (.istore_n 3, 1) := by decide +kernel
theorem dX2_takeNumber_68 : decode cX2_takeNumber 68 = .ok (.aload_n 0, 1) := by decide +kernel
theorem dX2_takeNumber_69 : decode cX2_takeNumber 69 = .ok (.dup, 1) := by decide +kernel
theorem dX2_takeNumber_70 : decode cX2_takeNumber 70 = .ok (.getfield 19, 3) := by decide +kernel
theorem dX2_takeNumber_73 : decode cX2_takeNumber 73 = .ok (.iconst 1, 1) := by decide +kernel
theorem dX2_takeNumber_74 : decode cX2_takeNumber 74 = .ok (.iadd, 1) := by decide +kernel
theorem dX2_takeNumber_75 : decode cX2_takeNumber 75 = .ok (.putfield 19, 3) := by decide +kernel
theorem dX2_takeNumber_78 : decode cX2_takeNumber 78 = .ok (.iinc 4 1, 3) := by decide +kernel
theorem dX2_takeNumber_81 : decode cX2_takeNumber 81 = .ok (.goto (-76), 3) := by decide +kernel
theorem dX2_takeNumber_84 : decode cX2_takeNumber 84 = .ok (.iload 4, 2) := by decide +kernel
theorem dX2_takeNumber_86 : decode cX2_takeNumber 86 = .ok (.ifCond .le 16, 3) := by decide +kernel
theorem dX2_takeNumber_89 : decode cX2_takeNumber 89 = .ok (.iload_n 3, 1) := by decide +kernel
theorem dX2_takeNumber_90 : decode cX2_takeNumber 90 = .ok (.iload_n 1, 1) := by decide +kernel
theorem dX2_takeNumber_91 : decode cX2_takeNumber 91 = .ok (.iload_n 2, 1) := by decide +kernel
theorem dX2_takeNumber_92 : decode cX2_takeNumber 92 = .ok (.invokestatic 31, 3) := by decide +kernel
theorem dX2_takeNumber_95 : decode cX2_takeNumber 95 = .ok (.ifCond .eq 7, 3) := by decide +kernel
theorem dX2_takeNumber_98 : decode cX2_takeNumber 98 = .ok (.iload_n 3, 1) := by decide +kernel
theorem dX2_takeNumber_99 : decode cX2_takeNumber 99 = .ok (.goto 5, 3) := by decide +kernel
theorem dX2_takeNumber_102 : decode cX2_takeNumber 102 = .ok (.bipush (-4), 2) := by decide +kernel
theorem dX2_takeNumber_104 : decode cX2_takeNumber 104 = .ok (.ireturn, 1) := by decide +kernel
theorem dX2_takeKind_0 : decode cX2_takeKind 0 = .ok (.aload_n 0, 1) := by decide +kernel
theorem dX2_takeKind_1 : decode cX2_takeKind 1 = .ok (.ldc 35, 2) := by decide +kernel
theorem dX2_takeKind_3 : decode cX2_takeKind 3 = .ok (.invokevirtual 37, 3) := by decide +kernel
theorem dX2_takeKind_6 : decode cX2_takeKind 6 = .ok (.ifCond .eq 5, 3) := by decide +kernel
theorem dX2_takeKind_9 : decode cX2_takeKind 9 = .ok (.iconst 0, 1) := by decide +kernel
theorem dX2_takeKind_10 : decode cX2_takeKind 10 = .ok (.ireturn, 1) := by decide +kernel
theorem dX2_takeKind_11 : decode cX2_takeKind 11 = .ok (.aload_n 0, 1) := by decide +kernel
theorem dX2_takeKind_12 : decode cX2_takeKind 12 = .ok (.ldc 41, 2) := by decide +kernel
theorem dX2_takeKind_14 : decode cX2_takeKind 14 = .ok (.invokevirtual 37, 3) := by decide +kernel
theorem dX2_takeKind_17 : decode cX2_takeKind 17 = .ok (.ifCond .eq 5, 3) := by decide +kernel
theorem dX2_takeKind_20 : decode cX2_takeKind 20 = .ok (.iconst 1, 1) := by decide +kernel
theorem dX2_takeKind_21 : decode cX2_takeKind 21 = .ok (.ireturn, 1) := by decide +kernel
theorem dX2_takeKind_22 : decode cX2_takeKind 22 = .ok (.aload_n 0, 1) := by decide +kernel
theorem dX2_takeKind_23 : decode cX2_takeKind 23 = .ok (.ldc 43, 2) := by decide +kernel
theorem dX2_takeKind_25 : decode cX2_takeKind 25 = .ok (.invokevirtual 37, 3) := by decide +kernel
theorem dX2_takeKind_28 : decode cX2_takeKind 28 = .ok (.ifCond .eq 5, 3) := by decide +kernel
theorem dX2_takeKind_31 : decode cX2_takeKind 31 = .ok (.iconst 2, 1) := by decide +kernel
theorem dX2_takeKind_32 : decode cX2_takeKind 32 = .ok (.ireturn, 1) := by decide +kernel
theorem dX2_takeKind_33 : decode cX2_takeKind 33 = .ok (.aload_n 0, 1) := by decide +kernel
theorem dX2_takeKind_34 : decode cX2_takeKind 34 = .ok (.ldc 45, 2) := by decide +kernel
theorem dX2_takeKind_36 : decode cX2_takeKind 36 = .ok (.invokevirtual 37, 3) := by decide +kernel
theorem dX2_takeKind_39 : decode cX2_takeKind 39 = .ok (.ifCond .eq 7, 3) := by decide +kernel
theorem dX2_takeKind_42 : decode cX2_takeKind 42 = .ok (.iconst 3, 1) := by decide +kernel
theorem dX2_takeKind_43 : decode cX2_takeKind 43 = .ok (.goto 5, 3) := by decide +kernel
theorem dX2_takeKind_46 : decode cX2_takeKind 46 = .ok (.bipush (-4), 2) := by decide +kernel
theorem dX2_takeKind_48 : decode cX2_takeKind 48 = .ok (.ireturn, 1) := by decide +kernel
theorem dX2_takeBelief_0 : decode cX2_takeBelief 0 = .ok (.aload_n 0, 1) := by decide +kernel
theorem dX2_takeBelief_1 : decode cX2_takeBelief 1 = .ok (.ldc 47, 2) := by decide +kernel
theorem dX2_takeBelief_3 : decode cX2_takeBelief 3 = .ok (.invokevirtual 37, 3) := by decide +kernel
theorem dX2_takeBelief_6 : decode cX2_takeBelief 6 = .ok (.ifCond .eq 5, 3) := by decide +kernel
theorem dX2_takeBelief_9 : decode cX2_takeBelief 9 = .ok (.iconst 0, 1) := by decide +kernel
theorem dX2_takeBelief_10 : decode cX2_takeBelief 10 = .ok (.ireturn, 1) := by decide +kernel
theorem dX2_takeBelief_11 : decode cX2_takeBelief 11 = .ok (.aload_n 0, 1) := by decide +kernel
theorem dX2_takeBelief_12 : decode cX2_takeBelief 12 = .ok (.ldc 49, 2) := by decide +kernel
theorem dX2_takeBelief_14 : decode cX2_takeBelief 14 = .ok (.invokevirtual 37, 3) := by decide +kernel
theorem dX2_takeBelief_17 : decode cX2_takeBelief 17 = .ok (.ifCond .eq 5, 3) := by decide +kernel
theorem dX2_takeBelief_20 : decode cX2_takeBelief 20 = .ok (.iconst 1, 1) := by decide +kernel
theorem dX2_takeBelief_21 : decode cX2_takeBelief 21 = .ok (.ireturn, 1) := by decide +kernel
theorem dX2_takeBelief_22 : decode cX2_takeBelief 22 = .ok (.aload_n 0, 1) := by decide +kernel
theorem dX2_takeBelief_23 : decode cX2_takeBelief 23 = .ok (.ldc 51, 2) := by decide +kernel
theorem dX2_takeBelief_25 : decode cX2_takeBelief 25 = .ok (.invokevirtual 37, 3) := by decide +kernel
theorem dX2_takeBelief_28 : decode cX2_takeBelief 28 = .ok (.ifCond .eq 7, 3) := by decide +kernel
theorem dX2_takeBelief_31 : decode cX2_takeBelief 31 = .ok (.iconst 2, 1) := by decide +kernel
theorem dX2_takeBelief_32 : decode cX2_takeBelief 32 = .ok (.goto 5, 3) := by decide +kernel
theorem dX2_takeBelief_35 : decode cX2_takeBelief 35 = .ok (.bipush (-4), 2) := by decide +kernel
theorem dX2_takeBelief_37 : decode cX2_takeBelief 37 = .ok (.ireturn, 1) := by decide +kernel
theorem dX3_init_0 : decode cX3_init 0 = .ok (.aload_n 0, 1) := by decide +kernel
theorem dX3_init_1 : decode cX3_init 1 = .ok (.invokespecial 3, 3) := by decide +kernel
theorem dX3_init_4 : decode cX3_init 4 = .ok (.aload_n 0, 1) := by decide +kernel
theorem dX3_init_5 : decode cX3_init 5 = .ok (.bipush 6, 2) := by decide +kernel
theorem dX3_init_7 : decode cX3_init 7 = .ok (.newarray .int, 2) := by decide +kernel
theorem dX3_init_9 : decode cX3_init 9 = .ok (.putfield 9, 3) := by decide +kernel
theorem dX3_init_12 : decode cX3_init 12 = .ok (.aload_n 0, 1) := by decide +kernel
theorem dX3_init_13 : decode cX3_init 13 = .ok (.bipush 6, 2) := by decide +kernel
theorem dX3_init_15 : decode cX3_init 15 = .ok (.newarray .int, 2) := by decide +kernel
theorem dX3_init_17 : decode cX3_init 17 = .ok (.putfield 15, 3) := by decide +kernel
theorem dX3_init_20 : decode cX3_init 20 = .ok (.return_, 1) := by decide +kernel
theorem dX3_clear_0 : decode cX3_clear 0 = .ok (.aload_n 0, 1) := by decide +kernel
theorem dX3_clear_1 : decode cX3_clear 1 = .ok (.iload_n 1, 1) := by decide +kernel
theorem dX3_clear_2 : decode cX3_clear 2 = .ok (.putfield 18, 3) := by decide +kernel
theorem dX3_clear_5 : decode cX3_clear 5 = .ok (.aload_n 0, 1) := by decide +kernel
theorem dX3_clear_6 : decode cX3_clear 6 = .ok (.iconst 0, 1) := by decide +kernel
theorem dX3_clear_7 : decode cX3_clear 7 = .ok (.putfield 22, 3) := by decide +kernel
theorem dX3_clear_10 : decode cX3_clear 10 = .ok (.aload_n 0, 1) := by decide +kernel
theorem dX3_clear_11 : decode cX3_clear 11 = .ok (.iconst 0, 1) := by decide +kernel
theorem dX3_clear_12 : decode cX3_clear 12 = .ok (.putfield 25, 3) := by decide +kernel
theorem dX3_clear_15 : decode cX3_clear 15 = .ok (.return_, 1) := by decide +kernel
theorem dX3_addHop_0 : decode cX3_addHop 0 = .ok (.aload_n 0, 1) := by decide +kernel
theorem dX3_addHop_1 : decode cX3_addHop 1 = .ok (.getfield 22, 3) := by decide +kernel
theorem dX3_addHop_4 : decode cX3_addHop 4 = .ok (.bipush 6, 2) := by decide +kernel
theorem dX3_addHop_6 : decode cX3_addHop 6 = .ok (.if_icmp .lt 5, 3) := by decide +kernel
theorem dX3_addHop_9 : decode cX3_addHop 9 = .ok (.iconst 0, 1) := by decide +kernel
theorem dX3_addHop_10 : decode cX3_addHop 10 = .ok (.ireturn, 1) := by decide +kernel
theorem dX3_addHop_11 : decode cX3_addHop 11 = .ok (.aload_n 0, 1) := by decide +kernel
theorem dX3_addHop_12 : decode cX3_addHop 12 = .ok (.getfield 9, 3) := by decide +kernel
theorem dX3_addHop_15 : decode cX3_addHop 15 = .ok (.aload_n 0, 1) := by decide +kernel
theorem dX3_addHop_16 : decode cX3_addHop 16 = .ok (.getfield 22, 3) := by decide +kernel
theorem dX3_addHop_19 : decode cX3_addHop 19 = .ok (.iload_n 1, 1) := by decide +kernel
theorem dX3_addHop_20 : decode cX3_addHop 20 = .ok (.iastore, 1) := by decide +kernel
theorem dX3_addHop_21 : decode cX3_addHop 21 = .ok (.aload_n 0, 1) := by decide +kernel
theorem dX3_addHop_22 : decode cX3_addHop 22 = .ok (.getfield 15, 3) := by decide +kernel
theorem dX3_addHop_25 : decode cX3_addHop 25 = .ok (.aload_n 0, 1) := by decide +kernel
theorem dX3_addHop_26 : decode cX3_addHop 26 = .ok (.getfield 22, 3) := by decide +kernel
theorem dX3_addHop_29 : decode cX3_addHop 29 = .ok (.iload_n 2, 1) := by decide +kernel
theorem dX3_addHop_30 : decode cX3_addHop 30 = .ok (.iastore, 1) := by decide +kernel
theorem dX3_addHop_31 : decode cX3_addHop 31 = .ok (.aload_n 0, 1) := by decide +kernel
theorem dX3_addHop_32 : decode cX3_addHop 32 = .ok (.dup, 1) := by decide +kernel
theorem dX3_addHop_33 : decode cX3_addHop 33 = .ok (.getfield 22, 3) := by decide +kernel
theorem dX3_addHop_36 : decode cX3_addHop 36 = .ok (.iconst 1, 1) := by decide +kernel
theorem dX3_addHop_37 : decode cX3_addHop 37 = .ok (.iadd, 1) := by decide +kernel
theorem dX3_addHop_38 : decode cX3_addHop 38 = .ok (.putfield 22, 3) := by decide +kernel
theorem dX3_addHop_41 : decode cX3_addHop 41 = .ok (.iconst 1, 1) := by decide +kernel
theorem dX3_addHop_42 : decode cX3_addHop 42 = .ok (.ireturn, 1) := by decide +kernel
theorem dX3_begin_0 : decode cX3_begin 0 = .ok (.aload_n 0, 1) := by decide +kernel
theorem dX3_begin_1 : decode cX3_begin 1 = .ok (.aload_n 1, 1) := by decide +kernel
theorem dX3_begin_2 : decode cX3_begin 2 = .ok (.getfield 28, 3) := by decide +kernel
theorem dX3_begin_5 : decode cX3_begin 5 = .ok (.putfield 33, 3) := by decide +kernel
theorem dX3_begin_8 : decode cX3_begin 8 = .ok (.aload_n 0, 1) := by decide +kernel
theorem dX3_begin_9 : decode cX3_begin 9 = .ok (.aload_n 1, 1) := by decide +kernel
theorem dX3_begin_10 : decode cX3_begin 10 = .ok (.getfield 36, 3) := by decide +kernel
theorem dX3_begin_13 : decode cX3_begin 13 = .ok (.putfield 39, 3) := by decide +kernel
theorem dX3_begin_16 : decode cX3_begin 16 = .ok (.aload_n 0, 1) := by decide +kernel
theorem dX3_begin_17 : decode cX3_begin 17 = .ok (.aload_n 0, 1) := by decide +kernel
theorem dX3_begin_18 : decode cX3_begin 18 = .ok (.invokevirtual 42, 3) := by decide +kernel
theorem dX3_begin_21 : decode cX3_begin 21 = .ok (.ifCond .eq 7, 3) := by decide +kernel
theorem dX3_begin_24 : decode cX3_begin 24 = .ok (.iconst 1, 1) := by decide +kernel
theorem dX3_begin_25 : decode cX3_begin 25 = .ok (.goto 4, 3) := by decide +kernel
theorem dX3_begin_28 : decode cX3_begin 28 = .ok (.iconst 0, 1) := by decide +kernel
theorem dX3_begin_29 : decode cX3_begin 29 = .ok (.putfield 46, 3) := by decide +kernel
theorem dX3_begin_32 : decode cX3_begin 32 = .ok (.aload_n 0, 1) := by decide +kernel
theorem dX3_begin_33 : decode cX3_begin 33 = .ok (.iconst 0, 1) := by decide +kernel
theorem dX3_begin_34 : decode cX3_begin 34 = .ok (.putfield 49, 3) := by decide +kernel
theorem dX3_begin_37 : decode cX3_begin 37 = .ok (.aload_n 0, 1) := by decide +kernel
theorem dX3_begin_38 : decode cX3_begin 38 = .ok (.iconst 0, 1) := by decide +kernel
theorem dX3_begin_39 : decode cX3_begin 39 = .ok (.putfield 52, 3) := by decide +kernel
theorem dX3_begin_42 : decode cX3_begin 42 = .ok (.aload_n 0, 1) := by decide +kernel
theorem dX3_begin_43 : decode cX3_begin 43 = .ok (.iconst 0, 1) := by decide +kernel
theorem dX3_begin_44 : decode cX3_begin 44 = .ok (.putfield 55, 3) := by decide +kernel
theorem dX3_begin_47 : decode cX3_begin 47 = .ok (.aload_n 0, 1) := by decide +kernel
theorem dX3_begin_48 : decode cX3_begin 48 = .ok (.iconst 0, 1) := by decide +kernel
theorem dX3_begin_49 : decode cX3_begin 49 = .ok (.putfield 58, 3) := by decide +kernel
theorem dX3_begin_52 : decode cX3_begin 52 = .ok (.aload_n 0, 1) := by decide +kernel
theorem dX3_begin_53 : decode cX3_begin 53 = .ok (.iconst 0, 1) := by decide +kernel
theorem dX3_begin_54 : decode cX3_begin 54 = .ok (.putfield 61, 3) := by decide +kernel
theorem dX3_begin_57 : decode cX3_begin 57 = .ok (.aload_n 0, 1) := by decide +kernel
theorem dX3_begin_58 : decode cX3_begin 58 = .ok (.iconst 0, 1) := by decide +kernel
theorem dX3_begin_59 : decode cX3_begin 59 = .ok (.putfield 64, 3) := by decide +kernel
theorem dX3_begin_62 : decode cX3_begin 62 = .ok (.aload_n 0, 1) := by decide +kernel
theorem dX3_begin_63 : decode cX3_begin 63 = .ok (.iconst 0, 1) := by decide +kernel
theorem dX3_begin_64 : decode cX3_begin 64 = .ok (.putfield 67, 3) := by decide +kernel
theorem dX3_begin_67 : decode cX3_begin 67 = .ok (.return_, 1) := by decide +kernel
theorem dX3_copy_0 : decode cX3_copy 0 = .ok (.aload_n 0, 1) := by decide +kernel
theorem dX3_copy_1 : decode cX3_copy 1 = .ok (.aload_n 1, 1) := by decide +kernel
theorem dX3_copy_2 : decode cX3_copy 2 = .ok (.getfield 18, 3) := by decide +kernel
theorem dX3_copy_5 : decode cX3_copy 5 = .ok (.putfield 18, 3) := by decide +kernel
theorem dX3_copy_8 : decode cX3_copy 8 = .ok (.aload_n 0, 1) := by decide +kernel
theorem dX3_copy_9 : decode cX3_copy 9 = .ok (.aload_n 1, 1) := by decide +kernel
theorem dX3_copy_10 : decode cX3_copy 10 = .ok (.getfield 22, 3) := by decide +kernel
theorem dX3_copy_13 : decode cX3_copy 13 = .ok (.putfield 22, 3) := by decide +kernel
theorem dX3_copy_16 : decode cX3_copy 16 = .ok (.aload_n 1, 1) := by decide +kernel
theorem dX3_copy_17 : decode cX3_copy 17 = .ok (.getfield 9, 3) := by decide +kernel
theorem dX3_copy_20 : decode cX3_copy 20 = .ok (.iconst 0, 1) := by decide +kernel
theorem dX3_copy_21 : decode cX3_copy 21 = .ok (.aload_n 0, 1) := by decide +kernel
theorem dX3_copy_22 : decode cX3_copy 22 = .ok (.getfield 9, 3) := by decide +kernel
theorem dX3_copy_25 : decode cX3_copy 25 = .ok (.iconst 0, 1) := by decide +kernel
theorem dX3_copy_26 : decode cX3_copy 26 = .ok (.bipush 6, 2) := by decide +kernel
theorem dX3_copy_28 : decode cX3_copy 28 = .ok (.invokestatic 70, 3) := by decide +kernel
theorem dX3_copy_31 : decode cX3_copy 31 = .ok (.aload_n 1, 1) := by decide +kernel
theorem dX3_copy_32 : decode cX3_copy 32 = .ok (.getfield 15, 3) := by decide +kernel
theorem dX3_copy_35 : decode cX3_copy 35 = .ok (.iconst 0, 1) := by decide +kernel
theorem dX3_copy_36 : decode cX3_copy 36 = .ok (.aload_n 0, 1) := by decide +kernel
theorem dX3_copy_37 : decode cX3_copy 37 = .ok (.getfield 15, 3) := by decide +kernel
theorem dX3_copy_40 : decode cX3_copy 40 = .ok (.iconst 0, 1) := by decide +kernel
theorem dX3_copy_41 : decode cX3_copy 41 = .ok (.bipush 6, 2) := by decide +kernel
theorem dX3_copy_43 : decode cX3_copy 43 = .ok (.invokestatic 70, 3) := by decide +kernel
theorem dX3_copy_46 : decode cX3_copy 46 = .ok (.aload_n 0, 1) := by decide +kernel
theorem dX3_copy_47 : decode cX3_copy 47 = .ok (.aload_n 1, 1) := by decide +kernel
theorem dX3_copy_48 : decode cX3_copy 48 = .ok (.getfield 25, 3) := by decide +kernel
theorem dX3_copy_51 : decode cX3_copy 51 = .ok (.putfield 25, 3) := by decide +kernel
theorem dX3_copy_54 : decode cX3_copy 54 = .ok (.aload_n 0, 1) := by decide +kernel
theorem dX3_copy_55 : decode cX3_copy 55 = .ok (.aload_n 1, 1) := by decide +kernel
theorem dX3_copy_56 : decode cX3_copy 56 = .ok (.getfield 33, 3) := by decide +kernel
theorem dX3_copy_59 : decode cX3_copy 59 = .ok (.putfield 33, 3) := by decide +kernel
theorem dX3_copy_62 : decode cX3_copy 62 = .ok (.aload_n 0, 1) := by decide +kernel
theorem dX3_copy_63 : decode cX3_copy 63 = .ok (.aload_n 1, 1) := by decide +kernel
theorem dX3_copy_64 : decode cX3_copy 64 = .ok (.getfield 39, 3) := by decide +kernel
theorem dX3_copy_67 : decode cX3_copy 67 = .ok (.putfield 39, 3) := by decide +kernel
theorem dX3_copy_70 : decode cX3_copy 70 = .ok (.aload_n 0, 1) := by decide +kernel
theorem dX3_copy_71 : decode cX3_copy 71 = .ok (.aload_n 1, 1) := by decide +kernel
theorem dX3_copy_72 : decode cX3_copy 72 = .ok (.getfield 46, 3) := by decide +kernel
theorem dX3_copy_75 : decode cX3_copy 75 = .ok (.putfield 46, 3) := by decide +kernel
theorem dX3_copy_78 : decode cX3_copy 78 = .ok (.aload_n 0, 1) := by decide +kernel
theorem dX3_copy_79 : decode cX3_copy 79 = .ok (.aload_n 1, 1) := by decide +kernel
theorem dX3_copy_80 : decode cX3_copy 80 = .ok (.getfield 49, 3) := by decide +kernel
theorem dX3_copy_83 : decode cX3_copy 83 = .ok (.putfield 49, 3) := by decide +kernel
theorem dX3_copy_86 : decode cX3_copy 86 = .ok (.aload_n 0, 1) := by decide +kernel
theorem dX3_copy_87 : decode cX3_copy 87 = .ok (.aload_n 1, 1) := by decide +kernel
theorem dX3_copy_88 : decode cX3_copy 88 = .ok (.getfield 52, 3) := by decide +kernel
theorem dX3_copy_91 : decode cX3_copy 91 = .ok (.putfield 52, 3) := by decide +kernel
theorem dX3_copy_94 : decode cX3_copy 94 = .ok (.aload_n 0, 1) := by decide +kernel
theorem dX3_copy_95 : decode cX3_copy 95 = .ok (.aload_n 1, 1) := by decide +kernel
theorem dX3_copy_96 : decode cX3_copy 96 = .ok (.getfield 55, 3) := by decide +kernel
theorem dX3_copy_99 : decode cX3_copy 99 = .ok (.putfield 55, 3) := by decide +kernel
theorem dX3_copy_102 : decode cX3_copy 102 = .ok (.aload_n 0, 1) := by decide +kernel
theorem dX3_copy_103 : decode cX3_copy 103 = .ok (.aload_n 1, 1) := by decide +kernel
theorem dX3_copy_104 : decode cX3_copy 104 = .ok (.getfield 58, 3) := by decide +kernel
theorem dX3_copy_107 : decode cX3_copy 107 = .ok (.putfield 58, 3) := by decide +kernel
theorem dX3_copy_110 : decode cX3_copy 110 = .ok (.aload_n 0, 1) := by decide +kernel
theorem dX3_copy_111 : decode cX3_copy 111 = .ok (.aload_n 1, 1) := by decide +kernel
theorem dX3_copy_112 : decode cX3_copy 112 = .ok (.getfield 61, 3) := by decide +kernel
theorem dX3_copy_115 : decode cX3_copy 115 = .ok (.putfield 61, 3) := by decide +kernel
theorem dX3_copy_118 : decode cX3_copy 118 = .ok (.aload_n 0, 1) := by decide +kernel
theorem dX3_copy_119 : decode cX3_copy 119 = .ok (.aload_n 1, 1) := by decide +kernel
theorem dX3_copy_120 : decode cX3_copy 120 = .ok (.getfield 64, 3) := by decide +kernel
theorem dX3_copy_123 : decode cX3_copy 123 = .ok (.putfield 64, 3) := by decide +kernel
theorem dX3_copy_126 : decode cX3_copy 126 = .ok (.aload_n 0, 1) := by decide +kernel
theorem dX3_copy_127 : decode cX3_copy 127 = .ok (.aload_n 1, 1) := by decide +kernel
theorem dX3_copy_128 : decode cX3_copy 128 = .ok (.getfield 67, 3) := by decide +kernel
theorem dX3_copy_131 : decode cX3_copy 131 = .ok (.putfield 67, 3) := by decide +kernel
theorem dX3_copy_134 : decode cX3_copy 134 = .ok (.return_, 1) := by decide +kernel
theorem dX3_tell_0 : decode cX3_tell 0 = .ok (.iload_n 1, 1) := by decide +kernel
theorem dX3_tell_1 : decode cX3_tell 1 = .ok (.tableswitch 132 0 12 #[67, 72, 77, 82, 87, 92, 97, 102, 107, 112, 117, 122, 127], 67) := by decide +kernel
theorem dX3_tell_68 : decode cX3_tell 68 = .ok (.aload_n 0, 1) := by decide +kernel
theorem dX3_tell_69 : decode cX3_tell 69 = .ok (.getfield 33, 3) := by decide +kernel
theorem dX3_tell_72 : decode cX3_tell 72 = .ok (.ireturn, 1) := by decide +kernel
theorem dX3_tell_73 : decode cX3_tell 73 = .ok (.aload_n 0, 1) := by decide +kernel
theorem dX3_tell_74 : decode cX3_tell 74 = .ok (.getfield 39, 3) := by decide +kernel
theorem dX3_tell_77 : decode cX3_tell 77 = .ok (.ireturn, 1) := by decide +kernel
theorem dX3_tell_78 : decode cX3_tell 78 = .ok (.aload_n 0, 1) := by decide +kernel
theorem dX3_tell_79 : decode cX3_tell 79 = .ok (.getfield 46, 3) := by decide +kernel
theorem dX3_tell_82 : decode cX3_tell 82 = .ok (.ireturn, 1) := by decide +kernel
theorem dX3_tell_83 : decode cX3_tell 83 = .ok (.aload_n 0, 1) := by decide +kernel
theorem dX3_tell_84 : decode cX3_tell 84 = .ok (.getfield 49, 3) := by decide +kernel
theorem dX3_tell_87 : decode cX3_tell 87 = .ok (.ireturn, 1) := by decide +kernel
theorem dX3_tell_88 : decode cX3_tell 88 = .ok (.aload_n 0, 1) := by decide +kernel
theorem dX3_tell_89 : decode cX3_tell 89 = .ok (.getfield 52, 3) := by decide +kernel
theorem dX3_tell_92 : decode cX3_tell 92 = .ok (.ireturn, 1) := by decide +kernel
theorem dX3_tell_93 : decode cX3_tell 93 = .ok (.aload_n 0, 1) := by decide +kernel
theorem dX3_tell_94 : decode cX3_tell 94 = .ok (.getfield 55, 3) := by decide +kernel
theorem dX3_tell_97 : decode cX3_tell 97 = .ok (.ireturn, 1) := by decide +kernel
theorem dX3_tell_98 : decode cX3_tell 98 = .ok (.aload_n 0, 1) := by decide +kernel
theorem dX3_tell_99 : decode cX3_tell 99 = .ok (.getfield 58, 3) := by decide +kernel
theorem dX3_tell_102 : decode cX3_tell 102 = .ok (.ireturn, 1) := by decide +kernel
theorem dX3_tell_103 : decode cX3_tell 103 = .ok (.aload_n 0, 1) := by decide +kernel
theorem dX3_tell_104 : decode cX3_tell 104 = .ok (.getfield 61, 3) := by decide +kernel
theorem dX3_tell_107 : decode cX3_tell 107 = .ok (.ireturn, 1) := by decide +kernel
theorem dX3_tell_108 : decode cX3_tell 108 = .ok (.aload_n 0, 1) := by decide +kernel
theorem dX3_tell_109 : decode cX3_tell 109 = .ok (.getfield 64, 3) := by decide +kernel
theorem dX3_tell_112 : decode cX3_tell 112 = .ok (.ireturn, 1) := by decide +kernel
theorem dX3_tell_113 : decode cX3_tell 113 = .ok (.aload_n 0, 1) := by decide +kernel
theorem dX3_tell_114 : decode cX3_tell 114 = .ok (.getfield 67, 3) := by decide +kernel
theorem dX3_tell_117 : decode cX3_tell 117 = .ok (.ireturn, 1) := by decide +kernel
theorem dX3_tell_118 : decode cX3_tell 118 = .ok (.aload_n 0, 1) := by decide +kernel
theorem dX3_tell_119 : decode cX3_tell 119 = .ok (.invokevirtual 76, 3) := by decide +kernel
theorem dX3_tell_122 : decode cX3_tell 122 = .ok (.ireturn, 1) := by decide +kernel
theorem dX3_tell_123 : decode cX3_tell 123 = .ok (.aload_n 0, 1) := by decide +kernel
theorem dX3_tell_124 : decode cX3_tell 124 = .ok (.getfield 22, 3) := by decide +kernel
theorem dX3_tell_127 : decode cX3_tell 127 = .ok (.ireturn, 1) := by decide +kernel
theorem dX3_tell_128 : decode cX3_tell 128 = .ok (.aload_n 0, 1) := by decide +kernel
theorem dX3_tell_129 : decode cX3_tell 129 = .ok (.getfield 25, 3) := by decide +kernel
theorem dX3_tell_132 : decode cX3_tell 132 = .ok (.ireturn, 1) := by decide +kernel
theorem dX3_tell_133 : decode cX3_tell 133 = .ok (.iconst (-1), 1) := by decide +kernel
theorem dX3_tell_134 : decode cX3_tell 134 = .ok (.ireturn, 1) := by decide +kernel
theorem dX3_passes_0 : decode cX3_passes 0 = .ok (.sipush 999, 3) := by decide +kernel
theorem dX3_passes_3 : decode cX3_passes 3 = .ok (.istore_n 1, 1) := by decide +kernel
theorem dX3_passes_4 : decode cX3_passes 4 = .ok (.iconst 0, 1) := by decide +kernel
theorem dX3_passes_5 : decode cX3_passes 5 = .ok (.istore_n 2, 1) := by decide +kernel
theorem dX3_passes_6 : decode cX3_passes 6 = .ok (.iload_n 2, 1) := by decide +kernel
theorem dX3_passes_7 : decode cX3_passes 7 = .ok (.aload_n 0, 1) := by decide +kernel
theorem dX3_passes_8 : decode cX3_passes 8 = .ok (.getfield 22, 3) := by decide +kernel
theorem dX3_passes_11 : decode cX3_passes 11 = .ok (.if_icmp .ge 20, 3) := by decide +kernel
theorem dX3_passes_14 : decode cX3_passes 14 = .ok (.iload_n 1, 1) := by decide +kernel
theorem dX3_passes_15 : decode cX3_passes 15 = .ok (.aload_n 0, 1) := by decide +kernel
theorem dX3_passes_16 : decode cX3_passes 16 = .ok (.getfield 9, 3) := by decide +kernel
theorem dX3_passes_19 : decode cX3_passes 19 = .ok (.iload_n 2, 1) := by decide +kernel
theorem dX3_passes_20 : decode cX3_passes 20 = .ok (.iaload, 1) := by decide +kernel
theorem dX3_passes_21 : decode cX3_passes 21 = .ok (.invokestatic 80, 3) := by decide +kernel
theorem dX3_passes_24 : decode cX3_passes 24 = .ok (.istore_n 1, 1) := by decide +kernel
theorem dX3_passes_25 : decode cX3_passes 25 = .ok (.iinc 2 1, 3) := by decide +kernel
theorem dX3_passes_28 : decode cX3_passes 28 = .ok (.goto (-22), 3) := by decide +kernel
theorem dX3_passes_31 : decode cX3_passes 31 = .ok (.iload_n 1, 1) := by decide +kernel
theorem dX3_passes_32 : decode cX3_passes 32 = .ok (.ireturn, 1) := by decide +kernel
theorem dX3_sought_0 : decode cX3_sought 0 = .ok (.aload_n 1, 1) := by decide +kernel
theorem dX3_sought_1 : decode cX3_sought 1 = .ok (.getfield 28, 3) := by decide +kernel
theorem dX3_sought_4 : decode cX3_sought 4 = .ok (.aload_n 1, 1) := by decide +kernel
theorem dX3_sought_5 : decode cX3_sought 5 = .ok (.getfield 36, 3) := by decide +kernel
theorem dX3_sought_8 : decode cX3_sought 8 = .ok (.aload_n 0, 1) := by decide +kernel
theorem dX3_sought_9 : decode cX3_sought 9 = .ok (.invokevirtual 76, 3) := by decide +kernel
theorem dX3_sought_12 : decode cX3_sought 12 = .ok (.invokestatic 80, 3) := by decide +kernel
theorem dX3_sought_15 : decode cX3_sought 15 = .ok (.invokestatic 86, 3) := by decide +kernel
theorem dX3_sought_18 : decode cX3_sought 18 = .ok (.ireturn, 1) := by decide +kernel
theorem dX3_isNarrowed_0 : decode cX3_isNarrowed 0 = .ok (.aload_n 0, 1) := by decide +kernel
theorem dX3_isNarrowed_1 : decode cX3_isNarrowed 1 = .ok (.getfield 33, 3) := by decide +kernel
theorem dX3_isNarrowed_4 : decode cX3_isNarrowed 4 = .ok (.aload_n 0, 1) := by decide +kernel
theorem dX3_isNarrowed_5 : decode cX3_isNarrowed 5 = .ok (.getfield 39, 3) := by decide +kernel
theorem dX3_isNarrowed_8 : decode cX3_isNarrowed 8 = .ok (.if_icmp .ne 7, 3) := by decide +kernel
theorem dX3_isNarrowed_11 : decode cX3_isNarrowed 11 = .ok (.iconst 1, 1) := by decide +kernel
theorem dX3_isNarrowed_12 : decode cX3_isNarrowed 12 = .ok (.goto 4, 3) := by decide +kernel
theorem dX3_isNarrowed_15 : decode cX3_isNarrowed 15 = .ok (.iconst 0, 1) := by decide +kernel
theorem dX3_isNarrowed_16 : decode cX3_isNarrowed 16 = .ok (.ireturn, 1) := by decide +kernel
theorem dX3_probeSize_0 : decode cX3_probeSize 0 = .ok (.aload_n 0, 1) := by decide +kernel
theorem dX3_probeSize_1 : decode cX3_probeSize 1 = .ok (.getfield 33, 3) := by decide +kernel
theorem dX3_probeSize_4 : decode cX3_probeSize 4 = .ok (.aload_n 0, 1) := by decide +kernel
theorem dX3_probeSize_5 : decode cX3_probeSize 5 = .ok (.getfield 39, 3) := by decide +kernel
theorem dX3_probeSize_8 : decode cX3_probeSize 8 = .ok (.aload_n 0, 1) := by decide +kernel
theorem dX3_probeSize_9 : decode cX3_probeSize 9 = .ok (.getfield 33, 3) := by decide +kernel
theorem dX3_probeSize_12 : decode cX3_probeSize 12 = .ok (.isub, 1) := by decide +kernel
theorem dX3_probeSize_13 : decode cX3_probeSize 13 = .ok (.iconst 1, 1) := by decide +kernel
theorem dX3_probeSize_14 : decode cX3_probeSize 14 = .ok (.iadd, 1) := by decide +kernel
theorem dX3_probeSize_15 : decode cX3_probeSize 15 = .ok (.iconst 2, 1) := by decide +kernel
theorem dX3_probeSize_16 : decode cX3_probeSize 16 = .ok (.idiv, 1) := by decide +kernel
theorem dX3_probeSize_17 : decode cX3_probeSize 17 = .ok (.iadd, 1) := by decide +kernel
theorem dX3_probeSize_18 : decode cX3_probeSize 18 = .ok (.ireturn, 1) := by decide +kernel
theorem dX3_drawn_0 : decode cX3_drawn 0 = .ok (.ldc2_w 89, 3) := by decide +kernel
theorem dX3_drawn_3 : decode cX3_drawn 3 = .ok (.aload_n 2, 1) := by decide +kernel
theorem dX3_drawn_4 : decode cX3_drawn 4 = .ok (.getfield 91, 3) := by decide +kernel
theorem dX3_drawn_7 : decode cX3_drawn 7 = .ok (.i2l, 1) := by decide +kernel
theorem dX3_drawn_8 : decode cX3_drawn 8 = .ok (.lmul, 1) := by decide +kernel
theorem dX3_drawn_9 : decode cX3_drawn 9 = .ok (.ldc2_w 94, 3) := by decide +kernel
theorem dX3_drawn_12 : decode cX3_drawn 12 = .ok (.aload_n 0, 1) := by decide +kernel
theorem dX3_drawn_13 : decode cX3_drawn 13 = .ok (.getfield 18, 3) := by decide +kernel
theorem dX3_drawn_16 : decode cX3_drawn 16 = .ok (.i2l, 1) := by decide +kernel
theorem dX3_drawn_17 : decode cX3_drawn 17 = .ok (.lmul, 1) := by decide +kernel
theorem dX3_drawn_18 : decode cX3_drawn 18 = .ok (.ladd, 1) := by decide +kernel
theorem dX3_drawn_19 : decode cX3_drawn 19 = .ok (.ldc2_w 96, 3) := by decide +kernel
theorem dX3_drawn_22 : decode cX3_drawn 22 = .ok (.iload_n 1, 1) := by decide +kernel
theorem dX3_drawn_23 : decode cX3_drawn 23 = .ok (.i2l, 1) := by decide +kernel
theorem dX3_drawn_24 : decode cX3_drawn 24 = .ok (.lmul, 1) := by decide +kernel
theorem dX3_drawn_25 : decode cX3_drawn 25 = .ok (.ladd, 1) := by decide +kernel
theorem dX3_drawn_26 : decode cX3_drawn 26 = .ok (.lconst 1, 1) := by decide +kernel
theorem dX3_drawn_27 : decode cX3_drawn 27 = .ok (.ladd, 1) := by decide +kernel
theorem dX3_drawn_28 : decode cX3_drawn 28 = .ok (.lstore_n 3, 1) := by decide +kernel
theorem dX3_drawn_29 : decode cX3_drawn 29 = .ok (.lload_n 3, 1) := by decide +kernel
theorem dX3_drawn_30 : decode cX3_drawn 30 = .ok (.lload_n 3, 1) := by decide +kernel
theorem dX3_drawn_31 : decode cX3_drawn 31 = .ok (.lmul, 1) := by decide +kernel
theorem dX3_drawn_32 : decode cX3_drawn 32 = .ok (.ldc2_w 98, 3) := by decide +kernel
theorem dX3_drawn_35 : decode cX3_drawn 35 = .ok (.lrem, 1) := by decide +kernel
theorem dX3_drawn_36 : decode cX3_drawn 36 = .ok (.l2i, 1) := by decide +kernel
theorem dX3_drawn_37 : decode cX3_drawn 37 = .ok (.ireturn, 1) := by decide +kernel
theorem dX3_dropper_0 : decode cX3_dropper 0 = .ok (.iconst 0, 1) := by decide +kernel
theorem dX3_dropper_1 : decode cX3_dropper 1 = .ok (.istore_n 2, 1) := by decide +kernel
theorem dX3_dropper_2 : decode cX3_dropper 2 = .ok (.iload_n 2, 1) := by decide +kernel
theorem dX3_dropper_3 : decode cX3_dropper 3 = .ok (.aload_n 0, 1) := by decide +kernel
theorem dX3_dropper_4 : decode cX3_dropper 4 = .ok (.getfield 22, 3) := by decide +kernel
theorem dX3_dropper_7 : decode cX3_dropper 7 = .ok (.if_icmp .ge 21, 3) := by decide +kernel
theorem dX3_dropper_10 : decode cX3_dropper 10 = .ok (.aload_n 0, 1) := by decide +kernel
theorem dX3_dropper_11 : decode cX3_dropper 11 = .ok (.getfield 9, 3) := by decide +kernel
theorem dX3_dropper_14 : decode cX3_dropper 14 = .ok (.iload_n 2, 1) := by decide +kernel
theorem dX3_dropper_15 : decode cX3_dropper 15 = .ok (.iaload, 1) := by decide +kernel
theorem dX3_dropper_16 : decode cX3_dropper 16 = .ok (.iload_n 1, 1) := by decide +kernel
theorem dX3_dropper_17 : decode cX3_dropper 17 = .ok (.if_icmp .ge 5, 3) := by decide +kernel
theorem dX3_dropper_20 : decode cX3_dropper 20 = .ok (.iload_n 2, 1) := by decide +kernel
theorem dX3_dropper_21 : decode cX3_dropper 21 = .ok (.ireturn, 1) := by decide +kernel
theorem dX3_dropper_22 : decode cX3_dropper 22 = .ok (.iinc 2 1, 3) := by decide +kernel
theorem dX3_dropper_25 : decode cX3_dropper 25 = .ok (.goto (-23), 3) := by decide +kernel
theorem dX3_dropper_28 : decode cX3_dropper 28 = .ok (.bipush (-4), 2) := by decide +kernel
theorem dX3_dropper_30 : decode cX3_dropper 30 = .ok (.ireturn, 1) := by decide +kernel
theorem dX3_meeting_0 : decode cX3_meeting 0 = .ok (.aload_n 0, 1) := by decide +kernel
theorem dX3_meeting_1 : decode cX3_meeting 1 = .ok (.iload_n 1, 1) := by decide +kernel
theorem dX3_meeting_2 : decode cX3_meeting 2 = .ok (.invokevirtual 100, 3) := by decide +kernel
theorem dX3_meeting_5 : decode cX3_meeting 5 = .ok (.istore_n 2, 1) := by decide +kernel
theorem dX3_meeting_6 : decode cX3_meeting 6 = .ok (.iload_n 2, 1) := by decide +kernel
theorem dX3_meeting_7 : decode cX3_meeting 7 = .ok (.bipush (-4), 2) := by decide +kernel
theorem dX3_meeting_9 : decode cX3_meeting 9 = .ok (.if_icmp .ne 5, 3) := by decide +kernel
theorem dX3_meeting_12 : decode cX3_meeting 12 = .ok (.iconst 0, 1) := by decide +kernel
theorem dX3_meeting_13 : decode cX3_meeting 13 = .ok (.ireturn, 1) := by decide +kernel
theorem dX3_meeting_14 : decode cX3_meeting 14 = .ok (.aload_n 0, 1) := by decide +kernel
theorem dX3_meeting_15 : decode cX3_meeting 15 = .ok (.getfield 15, 3) := by decide +kernel
theorem dX3_meeting_18 : decode cX3_meeting 18 = .ok (.iload_n 2, 1) := by decide +kernel
theorem dX3_meeting_19 : decode cX3_meeting 19 = .ok (.iaload, 1) := by decide +kernel
theorem dX3_meeting_20 : decode cX3_meeting 20 = .ok (.tableswitch 59 0 2 #[28, 37, 53], 28) := by decide +kernel
theorem dX3_meeting_48 : decode cX3_meeting 48 = .ok (.iconst 2, 1) := by decide +kernel
theorem dX3_meeting_49 : decode cX3_meeting 49 = .ok (.aload_n 0, 1) := by decide +kernel
theorem dX3_meeting_50 : decode cX3_meeting 50 = .ok (.getfield 9, 3) := by decide +kernel
theorem dX3_meeting_53 : decode cX3_meeting 53 = .ok (.iload_n 2, 1) := by decide +kernel
theorem dX3_meeting_54 : decode cX3_meeting 54 = .ok (.iaload, 1) := by decide +kernel
theorem dX3_meeting_55 : decode cX3_meeting 55 = .ok (.iadd, 1) := by decide +kernel
theorem dX3_meeting_56 : decode cX3_meeting 56 = .ok (.ireturn, 1) := by decide +kernel
theorem dX3_meeting_57 : decode cX3_meeting 57 = .ok (.iconst 2, 1) := by decide +kernel
theorem dX3_meeting_58 : decode cX3_meeting 58 = .ok (.iconst 0, 1) := by decide +kernel
theorem dX3_meeting_59 : decode cX3_meeting 59 = .ok (.aload_n 0, 1) := by decide +kernel
theorem dX3_meeting_60 : decode cX3_meeting 60 = .ok (.getfield 9, 3) := by decide +kernel
theorem dX3_meeting_63 : decode cX3_meeting 63 = .ok (.iload_n 2, 1) := by decide +kernel
theorem dX3_meeting_64 : decode cX3_meeting 64 = .ok (.iaload, 1) := by decide +kernel
theorem dX3_meeting_65 : decode cX3_meeting 65 = .ok (.bipush 40, 2) := by decide +kernel
theorem dX3_meeting_67 : decode cX3_meeting 67 = .ok (.isub, 1) := by decide +kernel
theorem dX3_meeting_68 : decode cX3_meeting 68 = .ok (.invokestatic 86, 3) := by decide +kernel
theorem dX3_meeting_71 : decode cX3_meeting 71 = .ok (.iadd, 1) := by decide +kernel
theorem dX3_meeting_72 : decode cX3_meeting 72 = .ok (.ireturn, 1) := by decide +kernel
theorem dX3_meeting_73 : decode cX3_meeting 73 = .ok (.iconst 2, 1) := by decide +kernel
theorem dX3_meeting_74 : decode cX3_meeting 74 = .ok (.iload_n 1, 1) := by decide +kernel
theorem dX3_meeting_75 : decode cX3_meeting 75 = .ok (.iconst 2, 1) := by decide +kernel
theorem dX3_meeting_76 : decode cX3_meeting 76 = .ok (.idiv, 1) := by decide +kernel
theorem dX3_meeting_77 : decode cX3_meeting 77 = .ok (.iadd, 1) := by decide +kernel
theorem dX3_meeting_78 : decode cX3_meeting 78 = .ok (.ireturn, 1) := by decide +kernel
theorem dX3_meeting_79 : decode cX3_meeting 79 = .ok (.iconst 1, 1) := by decide +kernel
theorem dX3_meeting_80 : decode cX3_meeting 80 = .ok (.ireturn, 1) := by decide +kernel
theorem dX3_post_0 : decode cX3_post 0 = .ok (.aload_n 0, 1) := by decide +kernel
theorem dX3_post_1 : decode cX3_post 1 = .ok (.aload_n 0, 1) := by decide +kernel
theorem dX3_post_2 : decode cX3_post 2 = .ok (.getfield 61, 3) := by decide +kernel
theorem dX3_post_5 : decode cX3_post 5 = .ok (.aload_n 2, 1) := by decide +kernel
theorem dX3_post_6 : decode cX3_post 6 = .ok (.invokevirtual 104, 3) := by decide +kernel
theorem dX3_post_9 : decode cX3_post 9 = .ok (.bipush 100, 2) := by decide +kernel
theorem dX3_post_11 : decode cX3_post 11 = .ok (.irem, 1) := by decide +kernel
theorem dX3_post_12 : decode cX3_post 12 = .ok (.aload_n 0, 1) := by decide +kernel
theorem dX3_post_13 : decode cX3_post 13 = .ok (.getfield 25, 3) := by decide +kernel
theorem dX3_post_16 : decode cX3_post 16 = .ok (.if_icmp .ge 7, 3) := by decide +kernel
theorem dX3_post_19 : decode cX3_post 19 = .ok (.iconst 1, 1) := by decide +kernel
theorem dX3_post_20 : decode cX3_post 20 = .ok (.goto 4, 3) := by decide +kernel
theorem dX3_post_23 : decode cX3_post 23 = .ok (.iconst 0, 1) := by decide +kernel
theorem dX3_post_24 : decode cX3_post 24 = .ok (.istore_n 3, 1) := by decide +kernel
theorem dX3_post_25 : decode cX3_post 25 = .ok (.iload_n 3, 1) := by decide +kernel
theorem dX3_post_26 : decode cX3_post 26 = .ok (.ifCond .eq 7, 3) := by decide +kernel
theorem dX3_post_29 : decode cX3_post 29 = .ok (.iconst 1, 1) := by decide +kernel
theorem dX3_post_30 : decode cX3_post 30 = .ok (.goto 8, 3) := by decide +kernel
theorem dX3_post_33 : decode cX3_post 33 = .ok (.aload_n 0, 1) := by decide +kernel
theorem dX3_post_34 : decode cX3_post 34 = .ok (.iload_n 1, 1) := by decide +kernel
theorem dX3_post_35 : decode cX3_post 35 = .ok (.invokevirtual 108, 3) := by decide +kernel
theorem dX3_post_38 : decode cX3_post 38 = .ok (.istore 4, 2) := by decide +kernel
theorem dX3_post_40 : decode cX3_post 40 = .ok (.aload_n 0, 1) := by decide +kernel
theorem dX3_post_41 : decode cX3_post 41 = .ok (.dup, 1) := by decide +kernel
theorem dX3_post_42 : decode cX3_post 42 = .ok (.getfield 61, 3) := by decide +kernel
theorem dX3_post_45 : decode cX3_post 45 = .ok (.iconst 1, 1) := by decide +kernel
theorem dX3_post_46 : decode cX3_post 46 = .ok (.iadd, 1) := by decide +kernel
theorem dX3_post_47 : decode cX3_post 47 = .ok (.putfield 61, 3) := by decide +kernel
theorem dX3_post_50 : decode cX3_post 50 = .ok (.aload_n 0, 1) := by decide +kernel
theorem dX3_post_51 : decode cX3_post 51 = .ok (.iload 4, 2) := by decide +kernel
theorem dX3_post_53 : decode cX3_post 53 = .ok (.iload_n 1, 1) := by decide +kernel
theorem dX3_post_54 : decode cX3_post 54 = .ok (.aload_n 2, 1) := by decide +kernel
theorem dX3_post_55 : decode cX3_post 55 = .ok (.invokevirtual 111, 3) := by decide +kernel
theorem dX3_post_58 : decode cX3_post 58 = .ok (.ifCond .eq 16, 3) := by decide +kernel
theorem dX3_post_61 : decode cX3_post 61 = .ok (.aload_n 0, 1) := by decide +kernel
theorem dX3_post_62 : decode cX3_post 62 = .ok (.dup, 1) := by decide +kernel
theorem dX3_post_63 : decode cX3_post 63 = .ok (.getfield 64, 3) := by decide +kernel
theorem dX3_post_66 : decode cX3_post 66 = .ok (.iconst 1, 1) := by decide +kernel
theorem dX3_post_67 : decode cX3_post 67 = .ok (.iadd, 1) := by decide +kernel
theorem dX3_post_68 : decode cX3_post 68 = .ok (.putfield 64, 3) := by decide +kernel
theorem dX3_post_71 : decode cX3_post 71 = .ok (.goto 19, 3) := by decide +kernel
theorem dX3_post_74 : decode cX3_post 74 = .ok (.iload 4, 2) := by decide +kernel
theorem dX3_post_76 : decode cX3_post 76 = .ok (.iconst 2, 1) := by decide +kernel
theorem dX3_post_77 : decode cX3_post 77 = .ok (.if_icmp .lt 13, 3) := by decide +kernel
theorem dX3_post_80 : decode cX3_post 80 = .ok (.aload_n 0, 1) := by decide +kernel
theorem dX3_post_81 : decode cX3_post 81 = .ok (.dup, 1) := by decide +kernel
theorem dX3_post_82 : decode cX3_post 82 = .ok (.getfield 67, 3) := by decide +kernel
theorem dX3_post_85 : decode cX3_post 85 = .ok (.iconst 1, 1) := by decide +kernel
theorem dX3_post_86 : decode cX3_post 86 = .ok (.iadd, 1) := by decide +kernel
theorem dX3_post_87 : decode cX3_post 87 = .ok (.putfield 67, 3) := by decide +kernel
theorem dX3_post_90 : decode cX3_post 90 = .ok (.iload 4, 2) := by decide +kernel
theorem dX3_post_92 : decode cX3_post 92 = .ok (.ireturn, 1) := by decide +kernel
theorem dX3_isLost_0 : decode cX3_isLost 0 = .ok (.iload_n 1, 1) := by decide +kernel
theorem dX3_isLost_1 : decode cX3_isLost 1 = .ok (.iconst 1, 1) := by decide +kernel
theorem dX3_isLost_2 : decode cX3_isLost 2 = .ok (.if_icmp .eq 19, 3) := by decide +kernel
theorem dX3_isLost_5 : decode cX3_isLost 5 = .ok (.iload_n 1, 1) := by decide +kernel
theorem dX3_isLost_6 : decode cX3_isLost 6 = .ok (.iconst 2, 1) := by decide +kernel
theorem dX3_isLost_7 : decode cX3_isLost 7 = .ok (.if_icmp .lt 18, 3) := by decide +kernel
theorem dX3_isLost_10 : decode cX3_isLost 10 = .ok (.aload_n 3, 1) := by decide +kernel
theorem dX3_isLost_11 : decode cX3_isLost 11 = .ok (.iload_n 1, 1) := by decide +kernel
theorem dX3_isLost_12 : decode cX3_isLost 12 = .ok (.iconst 2, 1) := by decide +kernel
theorem dX3_isLost_13 : decode cX3_isLost 13 = .ok (.isub, 1) := by decide +kernel
theorem dX3_isLost_14 : decode cX3_isLost 14 = .ok (.iload_n 2, 1) := by decide +kernel
theorem dX3_isLost_15 : decode cX3_isLost 15 = .ok (.invokevirtual 115, 3) := by decide +kernel
theorem dX3_isLost_18 : decode cX3_isLost 18 = .ok (.ifCond .ne 7, 3) := by decide +kernel
theorem dX3_isLost_21 : decode cX3_isLost 21 = .ok (.iconst 1, 1) := by decide +kernel
theorem dX3_isLost_22 : decode cX3_isLost 22 = .ok (.goto 4, 3) := by decide +kernel
theorem dX3_isLost_25 : decode cX3_isLost 25 = .ok (.iconst 0, 1) := by decide +kernel
theorem dX3_isLost_26 : decode cX3_isLost 26 = .ok (.ireturn, 1) := by decide +kernel
theorem dX3_goOn_0 : decode cX3_goOn 0 = .ok (.iconst 0, 1) := by decide +kernel
theorem dX3_goOn_1 : decode cX3_goOn 1 = .ok (.istore_n 3, 1) := by decide +kernel
theorem dX3_goOn_2 : decode cX3_goOn 2 = .ok (.iload_n 3, 1) := by decide +kernel
theorem dX3_goOn_3 : decode cX3_goOn 3 = .ok (.iload_n 1, 1) := by decide +kernel
theorem dX3_goOn_4 : decode cX3_goOn 4 = .ok (.if_icmp .ge 14, 3) := by decide +kernel
theorem dX3_goOn_7 : decode cX3_goOn 7 = .ok (.aload_n 0, 1) := by decide +kernel
theorem dX3_goOn_8 : decode cX3_goOn 8 = .ok (.aload_n 2, 1) := by decide +kernel
theorem dX3_goOn_9 : decode cX3_goOn 9 = .ok (.invokevirtual 119, 3) := by decide +kernel
theorem dX3_goOn_12 : decode cX3_goOn 12 = .ok (.iinc 3 1, 3) := by decide +kernel
theorem dX3_goOn_15 : decode cX3_goOn 15 = .ok (.goto (-13), 3) := by decide +kernel
theorem dX3_goOn_18 : decode cX3_goOn 18 = .ok (.return_, 1) := by decide +kernel
theorem dX3_step_0 : decode cX3_step 0 = .ok (.aload_n 0, 1) := by decide +kernel
theorem dX3_step_1 : decode cX3_step 1 = .ok (.getfield 46, 3) := by decide +kernel
theorem dX3_step_4 : decode cX3_step 4 = .ok (.iconst 1, 1) := by decide +kernel
theorem dX3_step_5 : decode cX3_step 5 = .ok (.if_icmp .ne 7, 3) := by decide +kernel
theorem dX3_step_8 : decode cX3_step 8 = .ok (.iconst 1, 1) := by decide +kernel
theorem dX3_step_9 : decode cX3_step 9 = .ok (.goto 4, 3) := by decide +kernel
theorem dX3_step_12 : decode cX3_step 12 = .ok (.iconst 0, 1) := by decide +kernel
theorem dX3_step_13 : decode cX3_step 13 = .ok (.istore_n 2, 1) := by decide +kernel
theorem dX3_step_14 : decode cX3_step 14 = .ok (.aload_n 0, 1) := by decide +kernel
theorem dX3_step_15 : decode cX3_step 15 = .ok (.getfield 33, 3) := by decide +kernel
theorem dX3_step_18 : decode cX3_step 18 = .ok (.istore_n 3, 1) := by decide +kernel
theorem dX3_step_19 : decode cX3_step 19 = .ok (.aload_n 0, 1) := by decide +kernel
theorem dX3_step_20 : decode cX3_step 20 = .ok (.getfield 39, 3) := by decide +kernel
theorem dX3_step_23 : decode cX3_step 23 = .ok (.istore 4, 2) := by decide +kernel
theorem dX3_step_25 : decode cX3_step 25 = .ok (.aload_n 0, 1) := by decide +kernel
theorem dX3_step_26 : decode cX3_step 26 = .ok (.aload_n 1, 1) := by decide +kernel
theorem dX3_step_27 : decode cX3_step 27 = .ok (.invokevirtual 123, 3) := by decide +kernel
theorem dX3_step_30 : decode cX3_step 30 = .ok (.aload_n 0, 1) := by decide +kernel
theorem dX3_step_31 : decode cX3_step 31 = .ok (.getfield 33, 3) := by decide +kernel
theorem dX3_step_34 : decode cX3_step 34 = .ok (.iload_n 3, 1) := by decide +kernel
theorem dX3_step_35 : decode cX3_step 35 = .ok (.if_icmp .ne 12, 3) := by decide +kernel
theorem dX3_step_38 : decode cX3_step 38 = .ok (.aload_n 0, 1) := by decide +kernel
theorem dX3_step_39 : decode cX3_step 39 = .ok (.getfield 39, 3) := by decide +kernel
theorem dX3_step_42 : decode cX3_step 42 = .ok (.iload 4, 2) := by decide +kernel
theorem dX3_step_44 : decode cX3_step 44 = .ok (.if_icmp .eq 7, 3) := by decide +kernel
theorem dX3_step_47 : decode cX3_step 47 = .ok (.iconst 1, 1) := by decide +kernel
theorem dX3_step_48 : decode cX3_step 48 = .ok (.goto 4, 3) := by decide +kernel
theorem dX3_step_51 : decode cX3_step 51 = .ok (.iconst 0, 1) := by decide +kernel
theorem dX3_step_52 : decode cX3_step 52 = .ok (.istore 5, 2) := by decide +kernel
theorem dX3_step_54 : decode cX3_step 54 = .ok (.iload 5, 2) := by decide +kernel
theorem dX3_step_56 : decode cX3_step 56 = .ok (.ifCond .eq 8, 3) := by decide +kernel
theorem dX3_step_59 : decode cX3_step 59 = .ok (.aload_n 0, 1) := by decide +kernel
theorem dX3_step_60 : decode cX3_step 60 = .ok (.iconst 0, 1) := by decide +kernel
theorem dX3_step_61 : decode cX3_step 61 = .ok (.putfield 49, 3) := by decide +kernel
theorem dX3_step_64 : decode cX3_step 64 = .ok (.aload_n 0, 1) := by decide +kernel
theorem dX3_step_65 : decode cX3_step 65 = .ok (.getfield 33, 3) := by decide +kernel
theorem dX3_step_68 : decode cX3_step 68 = .ok (.aload_n 0, 1) := by decide +kernel
theorem dX3_step_69 : decode cX3_step 69 = .ok (.getfield 39, 3) := by decide +kernel
theorem dX3_step_72 : decode cX3_step 72 = .ok (.if_icmp .ge 20, 3) := by decide +kernel
theorem dX3_step_75 : decode cX3_step 75 = .ok (.iload 5, 2) := by decide +kernel
theorem dX3_step_77 : decode cX3_step 77 = .ok (.ifCond .ne 7, 3) := by decide +kernel
theorem dX3_step_80 : decode cX3_step 80 = .ok (.iload_n 2, 1) := by decide +kernel
theorem dX3_step_81 : decode cX3_step 81 = .ok (.ifCond .ne 11, 3) := by decide +kernel
theorem dX3_step_84 : decode cX3_step 84 = .ok (.aload_n 0, 1) := by decide +kernel
theorem dX3_step_85 : decode cX3_step 85 = .ok (.aload_n 1, 1) := by decide +kernel
theorem dX3_step_86 : decode cX3_step 86 = .ok (.invokevirtual 126, 3) := by decide +kernel
theorem dX3_step_89 : decode cX3_step 89 = .ok (.goto 12, 3) := by decide +kernel
theorem dX3_step_92 : decode cX3_step 92 = .ok (.iload_n 2, 1) := by decide +kernel
theorem dX3_step_93 : decode cX3_step 93 = .ok (.ifCond .eq 8, 3) := by decide +kernel
theorem dX3_step_96 : decode cX3_step 96 = .ok (.aload_n 0, 1) := by decide +kernel
theorem dX3_step_97 : decode cX3_step 97 = .ok (.aload_n 1, 1) := by decide +kernel
theorem dX3_step_98 : decode cX3_step 98 = .ok (.invokevirtual 129, 3) := by decide +kernel
theorem dX3_step_101 : decode cX3_step 101 = .ok (.aload_n 0, 1) := by decide +kernel
theorem dX3_step_102 : decode cX3_step 102 = .ok (.aload_n 0, 1) := by decide +kernel
theorem dX3_step_103 : decode cX3_step 103 = .ok (.invokevirtual 42, 3) := by decide +kernel
theorem dX3_step_106 : decode cX3_step 106 = .ok (.ifCond .eq 7, 3) := by decide +kernel
theorem dX3_step_109 : decode cX3_step 109 = .ok (.iconst 1, 1) := by decide +kernel
theorem dX3_step_110 : decode cX3_step 110 = .ok (.goto 4, 3) := by decide +kernel
theorem dX3_step_113 : decode cX3_step 113 = .ok (.iconst 0, 1) := by decide +kernel
theorem dX3_step_114 : decode cX3_step 114 = .ok (.putfield 46, 3) := by decide +kernel
theorem dX3_step_117 : decode cX3_step 117 = .ok (.aload_n 0, 1) := by decide +kernel
theorem dX3_step_118 : decode cX3_step 118 = .ok (.getfield 46, 3) := by decide +kernel
theorem dX3_step_121 : decode cX3_step 121 = .ok (.ifCond .ne 8, 3) := by decide +kernel
theorem dX3_step_124 : decode cX3_step 124 = .ok (.aload_n 0, 1) := by decide +kernel
theorem dX3_step_125 : decode cX3_step 125 = .ok (.iconst 0, 1) := by decide +kernel
theorem dX3_step_126 : decode cX3_step 126 = .ok (.putfield 55, 3) := by decide +kernel
theorem dX3_step_129 : decode cX3_step 129 = .ok (.return_, 1) := by decide +kernel
theorem dX3_checkLow_0 : decode cX3_checkLow 0 = .ok (.aload_n 0, 1) := by decide +kernel
theorem dX3_checkLow_1 : decode cX3_checkLow 1 = .ok (.getfield 33, 3) := by decide +kernel
theorem dX3_checkLow_4 : decode cX3_checkLow 4 = .ok (.istore_n 2, 1) := by decide +kernel
theorem dX3_checkLow_5 : decode cX3_checkLow 5 = .ok (.aload_n 0, 1) := by decide +kernel
theorem dX3_checkLow_6 : decode cX3_checkLow 6 = .ok (.iload_n 2, 1) := by decide +kernel
theorem dX3_checkLow_7 : decode cX3_checkLow 7 = .ok (.aload_n 1, 1) := by decide +kernel
theorem dX3_checkLow_8 : decode cX3_checkLow 8 = .ok (.invokevirtual 132, 3) := by decide +kernel
theorem dX3_checkLow_11 : decode cX3_checkLow 11 = .ok (.istore_n 3, 1) := by decide +kernel
theorem dX3_checkLow_12 : decode cX3_checkLow 12 = .ok (.aload_n 0, 1) := by decide +kernel
theorem dX3_checkLow_13 : decode cX3_checkLow 13 = .ok (.iload_n 3, 1) := by decide +kernel
theorem dX3_checkLow_14 : decode cX3_checkLow 14 = .ok (.iload_n 2, 1) := by decide +kernel
theorem dX3_checkLow_15 : decode cX3_checkLow 15 = .ok (.aload_n 1, 1) := by decide +kernel
theorem dX3_checkLow_16 : decode cX3_checkLow 16 = .ok (.invokevirtual 111, 3) := by decide +kernel
theorem dX3_checkLow_19 : decode cX3_checkLow 19 = .ok (.ifCond .eq 9, 3) := by decide +kernel
theorem dX3_checkLow_22 : decode cX3_checkLow 22 = .ok (.aload_n 0, 1) := by decide +kernel
theorem dX3_checkLow_23 : decode cX3_checkLow 23 = .ok (.aload_n 1, 1) := by decide +kernel
theorem dX3_checkLow_24 : decode cX3_checkLow 24 = .ok (.invokevirtual 135, 3) := by decide +kernel
theorem dX3_checkLow_27 : decode cX3_checkLow 27 = .ok (.return_, 1) := by decide +kernel
theorem dX3_checkLow_28 : decode cX3_checkLow 28 = .ok (.aload_n 0, 1) := by decide +kernel
theorem dX3_checkLow_29 : decode cX3_checkLow 29 = .ok (.iconst 0, 1) := by decide +kernel
theorem dX3_checkLow_30 : decode cX3_checkLow 30 = .ok (.putfield 52, 3) := by decide +kernel
theorem dX3_checkLow_33 : decode cX3_checkLow 33 = .ok (.iload_n 3, 1) := by decide +kernel
theorem dX3_checkLow_34 : decode cX3_checkLow 34 = .ok (.iconst 2, 1) := by decide +kernel
theorem dX3_checkLow_35 : decode cX3_checkLow 35 = .ok (.if_icmp .lt 36, 3) := by decide +kernel
theorem dX3_checkLow_38 : decode cX3_checkLow 38 = .ok (.iload_n 3, 1) := by decide +kernel
theorem dX3_checkLow_39 : decode cX3_checkLow 39 = .ok (.iconst 2, 1) := by decide +kernel
theorem dX3_checkLow_40 : decode cX3_checkLow 40 = .ok (.isub, 1) := by decide +kernel
theorem dX3_checkLow_41 : decode cX3_checkLow 41 = .ok (.istore 4, 2) := by decide +kernel
theorem dX3_checkLow_43 : decode cX3_checkLow 43 = .ok (.iload 4, 2) := by decide +kernel
theorem dX3_checkLow_45 : decode cX3_checkLow 45 = .ok (.aload_n 0, 1) := by decide +kernel
theorem dX3_checkLow_46 : decode cX3_checkLow 46 = .ok (.getfield 33, 3) := by decide +kernel
theorem dX3_checkLow_49 : decode cX3_checkLow 49 = .ok (.if_icmp .ge 16, 3) := by decide +kernel
theorem dX3_checkLow_52 : decode cX3_checkLow 52 = .ok (.aload_n 0, 1) := by decide +kernel
theorem dX3_checkLow_53 : decode cX3_checkLow 53 = .ok (.iload 4, 2) := by decide +kernel
theorem dX3_checkLow_55 : decode cX3_checkLow 55 = .ok (.aload_n 1, 1) := by decide +kernel
theorem dX3_checkLow_56 : decode cX3_checkLow 56 = .ok (.getfield 28, 3) := by decide +kernel
theorem dX3_checkLow_59 : decode cX3_checkLow 59 = .ok (.invokestatic 86, 3) := by decide +kernel
theorem dX3_checkLow_62 : decode cX3_checkLow 62 = .ok (.putfield 33, 3) := by decide +kernel
theorem dX3_checkLow_65 : decode cX3_checkLow 65 = .ok (.aload_n 0, 1) := by decide +kernel
theorem dX3_checkLow_66 : decode cX3_checkLow 66 = .ok (.iload 4, 2) := by decide +kernel
theorem dX3_checkLow_68 : decode cX3_checkLow 68 = .ok (.invokevirtual 138, 3) := by decide +kernel
theorem dX3_checkLow_71 : decode cX3_checkLow 71 = .ok (.return_, 1) := by decide +kernel
theorem dX3_miss_0 : decode cX3_miss 0 = .ok (.aload_n 0, 1) := by decide +kernel
theorem dX3_miss_1 : decode cX3_miss 1 = .ok (.dup, 1) := by decide +kernel
theorem dX3_miss_2 : decode cX3_miss 2 = .ok (.getfield 52, 3) := by decide +kernel
theorem dX3_miss_5 : decode cX3_miss 5 = .ok (.iconst 1, 1) := by decide +kernel
theorem dX3_miss_6 : decode cX3_miss 6 = .ok (.iadd, 1) := by decide +kernel
theorem dX3_miss_7 : decode cX3_miss 7 = .ok (.putfield 52, 3) := by decide +kernel
theorem dX3_miss_10 : decode cX3_miss 10 = .ok (.aload_n 0, 1) := by decide +kernel
theorem dX3_miss_11 : decode cX3_miss 11 = .ok (.getfield 52, 3) := by decide +kernel
theorem dX3_miss_14 : decode cX3_miss 14 = .ok (.iconst 3, 1) := by decide +kernel
theorem dX3_miss_15 : decode cX3_miss 15 = .ok (.if_icmp .ge 4, 3) := by decide +kernel
theorem dX3_miss_18 : decode cX3_miss 18 = .ok (.return_, 1) := by decide +kernel
theorem dX3_miss_19 : decode cX3_miss 19 = .ok (.aload_n 0, 1) := by decide +kernel
theorem dX3_miss_20 : decode cX3_miss 20 = .ok (.iconst 0, 1) := by decide +kernel
theorem dX3_miss_21 : decode cX3_miss 21 = .ok (.putfield 52, 3) := by decide +kernel
theorem dX3_miss_24 : decode cX3_miss 24 = .ok (.aload_n 0, 1) := by decide +kernel
theorem dX3_miss_25 : decode cX3_miss 25 = .ok (.getfield 33, 3) := by decide +kernel
theorem dX3_miss_28 : decode cX3_miss 28 = .ok (.aload_n 1, 1) := by decide +kernel
theorem dX3_miss_29 : decode cX3_miss 29 = .ok (.getfield 28, 3) := by decide +kernel
theorem dX3_miss_32 : decode cX3_miss 32 = .ok (.if_icmp .le 31, 3) := by decide +kernel
theorem dX3_miss_35 : decode cX3_miss 35 = .ok (.aload_n 0, 1) := by decide +kernel
theorem dX3_miss_36 : decode cX3_miss 36 = .ok (.dup, 1) := by decide +kernel
theorem dX3_miss_37 : decode cX3_miss 37 = .ok (.getfield 58, 3) := by decide +kernel
theorem dX3_miss_40 : decode cX3_miss 40 = .ok (.iconst 1, 1) := by decide +kernel
theorem dX3_miss_41 : decode cX3_miss 41 = .ok (.iadd, 1) := by decide +kernel
theorem dX3_miss_42 : decode cX3_miss 42 = .ok (.putfield 58, 3) := by decide +kernel
theorem dX3_miss_45 : decode cX3_miss 45 = .ok (.aload_n 0, 1) := by decide +kernel
theorem dX3_miss_46 : decode cX3_miss 46 = .ok (.aload_n 0, 1) := by decide +kernel
theorem dX3_miss_47 : decode cX3_miss 47 = .ok (.getfield 33, 3) := by decide +kernel
theorem dX3_miss_50 : decode cX3_miss 50 = .ok (.iconst 1, 1) := by decide +kernel
theorem dX3_miss_51 : decode cX3_miss 51 = .ok (.isub, 1) := by decide +kernel
theorem dX3_miss_52 : decode cX3_miss 52 = .ok (.putfield 39, 3) := by decide +kernel
theorem dX3_miss_55 : decode cX3_miss 55 = .ok (.aload_n 0, 1) := by decide +kernel
theorem dX3_miss_56 : decode cX3_miss 56 = .ok (.aload_n 1, 1) := by decide +kernel
theorem dX3_miss_57 : decode cX3_miss 57 = .ok (.getfield 28, 3) := by decide +kernel
theorem dX3_miss_60 : decode cX3_miss 60 = .ok (.putfield 33, 3) := by decide +kernel
theorem dX3_miss_63 : decode cX3_miss 63 = .ok (.return_, 1) := by decide +kernel
theorem dX3_search_0 : decode cX3_search 0 = .ok (.aload_n 0, 1) := by decide +kernel
theorem dX3_search_1 : decode cX3_search 1 = .ok (.invokevirtual 142, 3) := by decide +kernel
theorem dX3_search_4 : decode cX3_search 4 = .ok (.istore_n 2, 1) := by decide +kernel
theorem dX3_search_5 : decode cX3_search 5 = .ok (.aload_n 0, 1) := by decide +kernel
theorem dX3_search_6 : decode cX3_search 6 = .ok (.iload_n 2, 1) := by decide +kernel
theorem dX3_search_7 : decode cX3_search 7 = .ok (.aload_n 1, 1) := by decide +kernel
theorem dX3_search_8 : decode cX3_search 8 = .ok (.invokevirtual 132, 3) := by decide +kernel
theorem dX3_search_11 : decode cX3_search 11 = .ok (.istore_n 3, 1) := by decide +kernel
theorem dX3_search_12 : decode cX3_search 12 = .ok (.aload_n 0, 1) := by decide +kernel
theorem dX3_search_13 : decode cX3_search 13 = .ok (.iload_n 3, 1) := by decide +kernel
theorem dX3_search_14 : decode cX3_search 14 = .ok (.iload_n 2, 1) := by decide +kernel
theorem dX3_search_15 : decode cX3_search 15 = .ok (.aload_n 1, 1) := by decide +kernel
theorem dX3_search_16 : decode cX3_search 16 = .ok (.invokevirtual 111, 3) := by decide +kernel
theorem dX3_search_19 : decode cX3_search 19 = .ok (.ifCond .eq 34, 3) := by decide +kernel
theorem dX3_search_22 : decode cX3_search 22 = .ok (.aload_n 0, 1) := by decide +kernel
theorem dX3_search_23 : decode cX3_search 23 = .ok (.dup, 1) := by decide +kernel
theorem dX3_search_24 : decode cX3_search 24 = .ok (.getfield 49, 3) := by decide +kernel
theorem dX3_search_27 : decode cX3_search 27 = .ok (.iconst 1, 1) := by decide +kernel
theorem dX3_search_28 : decode cX3_search 28 = .ok (.iadd, 1) := by decide +kernel
theorem dX3_search_29 : decode cX3_search 29 = .ok (.putfield 49, 3) := by decide +kernel
theorem dX3_search_32 : decode cX3_search 32 = .ok (.aload_n 0, 1) := by decide +kernel
theorem dX3_search_33 : decode cX3_search 33 = .ok (.getfield 49, 3) := by decide +kernel
theorem dX3_search_36 : decode cX3_search 36 = .ok (.iconst 3, 1) := by decide +kernel
theorem dX3_search_37 : decode cX3_search 37 = .ok (.if_icmp .lt 15, 3) := by decide +kernel
theorem dX3_search_40 : decode cX3_search 40 = .ok (.aload_n 0, 1) := by decide +kernel
theorem dX3_search_41 : decode cX3_search 41 = .ok (.iload_n 2, 1) := by decide +kernel
theorem dX3_search_42 : decode cX3_search 42 = .ok (.iconst 1, 1) := by decide +kernel
theorem dX3_search_43 : decode cX3_search 43 = .ok (.isub, 1) := by decide +kernel
theorem dX3_search_44 : decode cX3_search 44 = .ok (.putfield 39, 3) := by decide +kernel
theorem dX3_search_47 : decode cX3_search 47 = .ok (.aload_n 0, 1) := by decide +kernel
theorem dX3_search_48 : decode cX3_search 48 = .ok (.iconst 0, 1) := by decide +kernel
theorem dX3_search_49 : decode cX3_search 49 = .ok (.putfield 49, 3) := by decide +kernel
theorem dX3_search_52 : decode cX3_search 52 = .ok (.return_, 1) := by decide +kernel
theorem dX3_search_53 : decode cX3_search 53 = .ok (.aload_n 0, 1) := by decide +kernel
theorem dX3_search_54 : decode cX3_search 54 = .ok (.iconst 0, 1) := by decide +kernel
theorem dX3_search_55 : decode cX3_search 55 = .ok (.putfield 49, 3) := by decide +kernel
theorem dX3_search_58 : decode cX3_search 58 = .ok (.iload_n 3, 1) := by decide +kernel
theorem dX3_search_59 : decode cX3_search 59 = .ok (.iconst 2, 1) := by decide +kernel
theorem dX3_search_60 : decode cX3_search 60 = .ok (.if_icmp .lt 13, 3) := by decide +kernel
theorem dX3_search_63 : decode cX3_search 63 = .ok (.aload_n 0, 1) := by decide +kernel
theorem dX3_search_64 : decode cX3_search 64 = .ok (.iload_n 3, 1) := by decide +kernel
theorem dX3_search_65 : decode cX3_search 65 = .ok (.iconst 2, 1) := by decide +kernel
theorem dX3_search_66 : decode cX3_search 66 = .ok (.isub, 1) := by decide +kernel
theorem dX3_search_67 : decode cX3_search 67 = .ok (.invokevirtual 138, 3) := by decide +kernel
theorem dX3_search_70 : decode cX3_search 70 = .ok (.goto 8, 3) := by decide +kernel
theorem dX3_search_73 : decode cX3_search 73 = .ok (.aload_n 0, 1) := by decide +kernel
theorem dX3_search_74 : decode cX3_search 74 = .ok (.iload_n 2, 1) := by decide +kernel
theorem dX3_search_75 : decode cX3_search 75 = .ok (.putfield 33, 3) := by decide +kernel
theorem dX3_search_78 : decode cX3_search 78 = .ok (.return_, 1) := by decide +kernel
theorem dX3_lowerHigh_0 : decode cX3_lowerHigh 0 = .ok (.iload_n 1, 1) := by decide +kernel
theorem dX3_lowerHigh_1 : decode cX3_lowerHigh 1 = .ok (.aload_n 0, 1) := by decide +kernel
theorem dX3_lowerHigh_2 : decode cX3_lowerHigh 2 = .ok (.getfield 39, 3) := by decide +kernel
theorem dX3_lowerHigh_5 : decode cX3_lowerHigh 5 = .ok (.if_icmp .ge 15, 3) := by decide +kernel
theorem dX3_lowerHigh_8 : decode cX3_lowerHigh 8 = .ok (.aload_n 0, 1) := by decide +kernel
theorem dX3_lowerHigh_9 : decode cX3_lowerHigh 9 = .ok (.iload_n 1, 1) := by decide +kernel
theorem dX3_lowerHigh_10 : decode cX3_lowerHigh 10 = .ok (.aload_n 0, 1) := by decide +kernel
theorem dX3_lowerHigh_11 : decode cX3_lowerHigh 11 = .ok (.getfield 33, 3) := by decide +kernel
theorem dX3_lowerHigh_14 : decode cX3_lowerHigh 14 = .ok (.invokestatic 86, 3) := by decide +kernel
theorem dX3_lowerHigh_17 : decode cX3_lowerHigh 17 = .ok (.putfield 39, 3) := by decide +kernel
theorem dX3_lowerHigh_20 : decode cX3_lowerHigh 20 = .ok (.return_, 1) := by decide +kernel
theorem dX3_growOlder_0 : decode cX3_growOlder 0 = .ok (.aload_n 0, 1) := by decide +kernel
theorem dX3_growOlder_1 : decode cX3_growOlder 1 = .ok (.dup, 1) := by decide +kernel
theorem dX3_growOlder_2 : decode cX3_growOlder 2 = .ok (.getfield 55, 3) := by decide +kernel
theorem dX3_growOlder_5 : decode cX3_growOlder 5 = .ok (.iconst 1, 1) := by decide +kernel
theorem dX3_growOlder_6 : decode cX3_growOlder 6 = .ok (.iadd, 1) := by decide +kernel
theorem dX3_growOlder_7 : decode cX3_growOlder 7 = .ok (.putfield 55, 3) := by decide +kernel
theorem dX3_growOlder_10 : decode cX3_growOlder 10 = .ok (.aload_n 0, 1) := by decide +kernel
theorem dX3_growOlder_11 : decode cX3_growOlder 11 = .ok (.getfield 55, 3) := by decide +kernel
theorem dX3_growOlder_14 : decode cX3_growOlder 14 = .ok (.aload_n 1, 1) := by decide +kernel
theorem dX3_growOlder_15 : decode cX3_growOlder 15 = .ok (.getfield 145, 3) := by decide +kernel
theorem dX3_growOlder_18 : decode cX3_growOlder 18 = .ok (.if_icmp .lt 16, 3) := by decide +kernel
theorem dX3_growOlder_21 : decode cX3_growOlder 21 = .ok (.aload_n 0, 1) := by decide +kernel
theorem dX3_growOlder_22 : decode cX3_growOlder 22 = .ok (.iconst 0, 1) := by decide +kernel
theorem dX3_growOlder_23 : decode cX3_growOlder 23 = .ok (.putfield 55, 3) := by decide +kernel
theorem dX3_growOlder_26 : decode cX3_growOlder 26 = .ok (.aload_n 0, 1) := by decide +kernel
theorem dX3_growOlder_27 : decode cX3_growOlder 27 = .ok (.aload_n 1, 1) := by decide +kernel
theorem dX3_growOlder_28 : decode cX3_growOlder 28 = .ok (.getfield 36, 3) := by decide +kernel
theorem dX3_growOlder_31 : decode cX3_growOlder 31 = .ok (.putfield 39, 3) := by decide +kernel
theorem dX3_growOlder_34 : decode cX3_growOlder 34 = .ok (.return_, 1) := by decide +kernel
theorem dX4_init_0 : decode cX4_init 0 = .ok (.aload_n 0, 1) := by decide +kernel
theorem dX4_init_1 : decode cX4_init 1 = .ok (.invokespecial 1, 3) := by decide +kernel
theorem dX4_init_4 : decode cX4_init 4 = .ok (.aload_n 0, 1) := by decide +kernel
theorem dX4_init_5 : decode cX4_init 5 = .ok (.new 7, 3) := by decide +kernel
theorem dX4_init_8 : decode cX4_init 8 = .ok (.dup, 1) := by decide +kernel
theorem dX4_init_9 : decode cX4_init 9 = .ok (.invokespecial 9, 3) := by decide +kernel
theorem dX4_init_12 : decode cX4_init 12 = .ok (.putfield 10, 3) := by decide +kernel
theorem dX4_init_15 : decode cX4_init 15 = .ok (.aload_n 0, 1) := by decide +kernel
theorem dX4_init_16 : decode cX4_init 16 = .ok (.new 16, 3) := by decide +kernel
theorem dX4_init_19 : decode cX4_init 19 = .ok (.dup, 1) := by decide +kernel
theorem dX4_init_20 : decode cX4_init 20 = .ok (.invokespecial 18, 3) := by decide +kernel
theorem dX4_init_23 : decode cX4_init 23 = .ok (.putfield 19, 3) := by decide +kernel
theorem dX4_init_26 : decode cX4_init 26 = .ok (.aload_n 0, 1) := by decide +kernel
theorem dX4_init_27 : decode cX4_init 27 = .ok (.new 16, 3) := by decide +kernel
theorem dX4_init_30 : decode cX4_init 30 = .ok (.dup, 1) := by decide +kernel
theorem dX4_init_31 : decode cX4_init 31 = .ok (.invokespecial 18, 3) := by decide +kernel
theorem dX4_init_34 : decode cX4_init 34 = .ok (.putfield 23, 3) := by decide +kernel
theorem dX4_init_37 : decode cX4_init 37 = .ok (.aload_n 0, 1) := by decide +kernel
theorem dX4_init_38 : decode cX4_init 38 = .ok (.iconst 4, 1) := by decide +kernel
theorem dX4_init_39 : decode cX4_init 39 = .ok (.anewarray 16, 3) := by decide +kernel
theorem dX4_init_42 : decode cX4_init 42 = .ok (.putfield 26, 3) := by decide +kernel
theorem dX4_init_45 : decode cX4_init 45 = .ok (.aload_n 0, 1) := by decide +kernel
theorem dX4_init_46 : decode cX4_init 46 = .ok (.new 30, 3) := by decide +kernel
theorem dX4_init_49 : decode cX4_init 49 = .ok (.dup, 1) := by decide +kernel
theorem dX4_init_50 : decode cX4_init 50 = .ok (.invokespecial 32, 3) := by decide +kernel
theorem dX4_init_53 : decode cX4_init 53 = .ok (.putfield 33, 3) := by decide +kernel
theorem dX4_init_56 : decode cX4_init 56 = .ok (.aload_n 0, 1) := by decide +kernel
theorem dX4_init_57 : decode cX4_init 57 = .ok (.new 37, 3) := by decide +kernel
theorem dX4_init_60 : decode cX4_init 60 = .ok (.dup, 1) := by decide +kernel
theorem dX4_init_61 : decode cX4_init 61 = .ok (.invokespecial 39, 3) := by decide +kernel
theorem dX4_init_64 : decode cX4_init 64 = .ok (.putfield 40, 3) := by decide +kernel
theorem dX4_init_67 : decode cX4_init 67 = .ok (.iconst 0, 1) := by decide +kernel
theorem dX4_init_68 : decode cX4_init 68 = .ok (.istore_n 1, 1) := by decide +kernel
theorem dX4_init_69 : decode cX4_init 69 = .ok (.iload_n 1, 1) := by decide +kernel
theorem dX4_init_70 : decode cX4_init 70 = .ok (.iconst 4, 1) := by decide +kernel
end
section
theorem dX4_init_71 : decode cX4_init 71 = .ok (.if_icmp .ge 22, 3) := by decide +kernel
theorem dX4_init_74 : decode cX4_init 74 = .ok (.aload_n 0, 1) := by decide +kernel
theorem dX4_init_75 : decode cX4_init 75 = .ok (.getfield 26, 3) := by decide +kernel
theorem dX4_init_78 : decode cX4_init 78 = .ok (.iload_n 1, 1) := by decide +kernel
theorem dX4_init_79 : decode cX4_init 79 = .ok (.new 16, 3) := by decide +kernel
theorem dX4_init_82 : decode cX4_init 82 = .ok (.dup, 1) := by decide +kernel
theorem dX4_init_83 : decode cX4_init 83 = .ok (.invokespecial 18, 3) := by decide +kernel
theorem dX4_init_86 : decode cX4_init 86 = .ok (.aastore, 1) := by decide +kernel
theorem dX4_init_87 : decode cX4_init 87 = .ok (.iinc 1 1, 3) := by decide +kernel
theorem dX4_init_90 : decode cX4_init 90 = .ok (.goto (-21), 3) := by decide +kernel
theorem dX4_init_93 : decode cX4_init 93 = .ok (.iconst 0, 1) := by decide +kernel
theorem dX4_init_94 : decode cX4_init 94 = .ok (.istore_n 1, 1) := by decide +kernel
theorem dX4_init_95 : decode cX4_init 95 = .ok (.iload_n 1, 1) := by decide +kernel
theorem dX4_init_96 : decode cX4_init 96 = .ok (.ldc 44, 2) := by decide +kernel
theorem dX4_init_98 : decode cX4_init 98 = .ok (.invokevirtual 46, 3) := by decide +kernel
theorem dX4_init_101 : decode cX4_init 101 = .ok (.if_icmp .ge 22, 3) := by decide +kernel
theorem dX4_init_104 : decode cX4_init 104 = .ok (.aload_n 0, 1) := by decide +kernel
theorem dX4_init_105 : decode cX4_init 105 = .ok (.getfield 10, 3) := by decide +kernel
theorem dX4_init_108 : decode cX4_init 108 = .ok (.ldc 44, 2) := by decide +kernel
theorem dX4_init_110 : decode cX4_init 110 = .ok (.iload_n 1, 1) := by decide +kernel
theorem dX4_init_111 : decode cX4_init 111 = .ok (.invokevirtual 52, 3) := by decide +kernel
theorem dX4_init_114 : decode cX4_init 114 = .ok (.invokevirtual 56, 3) := by decide +kernel
theorem dX4_init_117 : decode cX4_init 117 = .ok (.iinc 1 1, 3) := by decide +kernel
theorem dX4_init_120 : decode cX4_init 120 = .ok (.goto (-25), 3) := by decide +kernel
theorem dX4_init_123 : decode cX4_init 123 = .ok (.aload_n 0, 1) := by decide +kernel
theorem dX4_init_124 : decode cX4_init 124 = .ok (.getfield 23, 3) := by decide +kernel
theorem dX4_init_127 : decode cX4_init 127 = .ok (.aload_n 0, 1) := by decide +kernel
theorem dX4_init_128 : decode cX4_init 128 = .ok (.getfield 10, 3) := by decide +kernel
theorem dX4_init_131 : decode cX4_init 131 = .ok (.invokevirtual 60, 3) := by decide +kernel
theorem dX4_init_134 : decode cX4_init 134 = .ok (.pop, 1) := by decide +kernel
theorem dX4_init_135 : decode cX4_init 135 = .ok (.aload_n 0, 1) := by decide +kernel
theorem dX4_init_136 : decode cX4_init 136 = .ok (.getfield 19, 3) := by decide +kernel
theorem dX4_init_139 : decode cX4_init 139 = .ok (.aload_n 0, 1) := by decide +kernel
theorem dX4_init_140 : decode cX4_init 140 = .ok (.getfield 23, 3) := by decide +kernel
theorem dX4_init_143 : decode cX4_init 143 = .ok (.invokevirtual 64, 3) := by decide +kernel
theorem dX4_init_146 : decode cX4_init 146 = .ok (.aload_n 0, 1) := by decide +kernel
theorem dX4_init_147 : decode cX4_init 147 = .ok (.getfield 10, 3) := by decide +kernel
theorem dX4_init_150 : decode cX4_init 150 = .ok (.iconst 0, 1) := by decide +kernel
theorem dX4_init_151 : decode cX4_init 151 = .ok (.putfield 68, 3) := by decide +kernel
theorem dX4_init_154 : decode cX4_init 154 = .ok (.return_, 1) := by decide +kernel
theorem dX4_write_0 : decode cX4_write 0 = .ok (.iload_n 1, 1) := by decide +kernel
theorem dX4_write_1 : decode cX4_write 1 = .ok (.bipush 32, 2) := by decide +kernel
theorem dX4_write_3 : decode cX4_write 3 = .ok (.if_icmp .lt 9, 3) := by decide +kernel
theorem dX4_write_6 : decode cX4_write 6 = .ok (.iload_n 1, 1) := by decide +kernel
theorem dX4_write_7 : decode cX4_write 7 = .ok (.bipush 126, 2) := by decide +kernel
theorem dX4_write_9 : decode cX4_write 9 = .ok (.if_icmp .le 5, 3) := by decide +kernel
theorem dX4_write_12 : decode cX4_write 12 = .ok (.iconst (-1), 1) := by decide +kernel
theorem dX4_write_13 : decode cX4_write 13 = .ok (.ireturn, 1) := by decide +kernel
theorem dX4_write_14 : decode cX4_write 14 = .ok (.aload_n 0, 1) := by decide +kernel
theorem dX4_write_15 : decode cX4_write 15 = .ok (.getfield 10, 3) := by decide +kernel
theorem dX4_write_18 : decode cX4_write 18 = .ok (.getfield 68, 3) := by decide +kernel
theorem dX4_write_21 : decode cX4_write 21 = .ok (.sipush 240, 3) := by decide +kernel
theorem dX4_write_24 : decode cX4_write 24 = .ok (.if_icmp .lt 6, 3) := by decide +kernel
theorem dX4_write_27 : decode cX4_write 27 = .ok (.bipush (-3), 2) := by decide +kernel
theorem dX4_write_29 : decode cX4_write 29 = .ok (.ireturn, 1) := by decide +kernel
theorem dX4_write_30 : decode cX4_write 30 = .ok (.aload_n 0, 1) := by decide +kernel
theorem dX4_write_31 : decode cX4_write 31 = .ok (.getfield 10, 3) := by decide +kernel
theorem dX4_write_34 : decode cX4_write 34 = .ok (.iload_n 1, 1) := by decide +kernel
theorem dX4_write_35 : decode cX4_write 35 = .ok (.i2c, 1) := by decide +kernel
theorem dX4_write_36 : decode cX4_write 36 = .ok (.invokevirtual 56, 3) := by decide +kernel
theorem dX4_write_39 : decode cX4_write 39 = .ok (.aload_n 0, 1) := by decide +kernel
theorem dX4_write_40 : decode cX4_write 40 = .ok (.getfield 10, 3) := by decide +kernel
theorem dX4_write_43 : decode cX4_write 43 = .ok (.getfield 68, 3) := by decide +kernel
theorem dX4_write_46 : decode cX4_write 46 = .ok (.ireturn, 1) := by decide +kernel
theorem dX4_wipe_0 : decode cX4_wipe 0 = .ok (.aload_n 0, 1) := by decide +kernel
theorem dX4_wipe_1 : decode cX4_wipe 1 = .ok (.getfield 10, 3) := by decide +kernel
theorem dX4_wipe_4 : decode cX4_wipe 4 = .ok (.getfield 68, 3) := by decide +kernel
theorem dX4_wipe_7 : decode cX4_wipe 7 = .ok (.istore_n 1, 1) := by decide +kernel
theorem dX4_wipe_8 : decode cX4_wipe 8 = .ok (.aload_n 0, 1) := by decide +kernel
theorem dX4_wipe_9 : decode cX4_wipe 9 = .ok (.getfield 10, 3) := by decide +kernel
theorem dX4_wipe_12 : decode cX4_wipe 12 = .ok (.iconst 0, 1) := by decide +kernel
theorem dX4_wipe_13 : decode cX4_wipe 13 = .ok (.putfield 68, 3) := by decide +kernel
theorem dX4_wipe_16 : decode cX4_wipe 16 = .ok (.iload_n 1, 1) := by decide +kernel
theorem dX4_wipe_17 : decode cX4_wipe 17 = .ok (.ireturn, 1) := by decide +kernel
theorem dX4_fault_0 : decode cX4_fault 0 = .ok (.aload_n 0, 1) := by decide +kernel
theorem dX4_fault_1 : decode cX4_fault 1 = .ok (.getfield 23, 3) := by decide +kernel
theorem dX4_fault_4 : decode cX4_fault 4 = .ok (.aload_n 0, 1) := by decide +kernel
theorem dX4_fault_5 : decode cX4_fault 5 = .ok (.getfield 10, 3) := by decide +kernel
theorem dX4_fault_8 : decode cX4_fault 8 = .ok (.invokevirtual 60, 3) := by decide +kernel
theorem dX4_fault_11 : decode cX4_fault 11 = .ok (.ireturn, 1) := by decide +kernel
theorem dX4_lay_0 : decode cX4_lay 0 = .ok (.aload_n 0, 1) := by decide +kernel
theorem dX4_lay_1 : decode cX4_lay 1 = .ok (.getfield 23, 3) := by decide +kernel
theorem dX4_lay_4 : decode cX4_lay 4 = .ok (.aload_n 0, 1) := by decide +kernel
theorem dX4_lay_5 : decode cX4_lay 5 = .ok (.getfield 10, 3) := by decide +kernel
theorem dX4_lay_8 : decode cX4_lay 8 = .ok (.invokevirtual 60, 3) := by decide +kernel
theorem dX4_lay_11 : decode cX4_lay 11 = .ok (.bipush (-4), 2) := by decide +kernel
theorem dX4_lay_13 : decode cX4_lay 13 = .ok (.if_icmp .ne 13, 3) := by decide +kernel
theorem dX4_lay_16 : decode cX4_lay 16 = .ok (.aload_n 0, 1) := by decide +kernel
theorem dX4_lay_17 : decode cX4_lay 17 = .ok (.getfield 23, 3) := by decide +kernel
theorem dX4_lay_20 : decode cX4_lay 20 = .ok (.getfield 71, 3) := by decide +kernel
theorem dX4_lay_23 : decode cX4_lay 23 = .ok (.ifCond .ne 6, 3) := by decide +kernel
theorem dX4_lay_26 : decode cX4_lay 26 = .ok (.bipush (-2), 2) := by decide +kernel
theorem dX4_lay_28 : decode cX4_lay 28 = .ok (.ireturn, 1) := by decide +kernel
theorem dX4_lay_29 : decode cX4_lay 29 = .ok (.aload_n 0, 1) := by decide +kernel
theorem dX4_lay_30 : decode cX4_lay 30 = .ok (.getfield 19, 3) := by decide +kernel
theorem dX4_lay_33 : decode cX4_lay 33 = .ok (.aload_n 0, 1) := by decide +kernel
theorem dX4_lay_34 : decode cX4_lay 34 = .ok (.getfield 23, 3) := by decide +kernel
theorem dX4_lay_37 : decode cX4_lay 37 = .ok (.invokevirtual 64, 3) := by decide +kernel
theorem dX4_lay_40 : decode cX4_lay 40 = .ok (.aload_n 0, 1) := by decide +kernel
theorem dX4_lay_41 : decode cX4_lay 41 = .ok (.iconst 0, 1) := by decide +kernel
theorem dX4_lay_42 : decode cX4_lay 42 = .ok (.putfield 74, 3) := by decide +kernel
theorem dX4_lay_45 : decode cX4_lay 45 = .ok (.aload_n 0, 1) := by decide +kernel
theorem dX4_lay_46 : decode cX4_lay 46 = .ok (.getfield 19, 3) := by decide +kernel
theorem dX4_lay_49 : decode cX4_lay 49 = .ok (.getfield 71, 3) := by decide +kernel
theorem dX4_lay_52 : decode cX4_lay 52 = .ok (.ireturn, 1) := by decide +kernel
theorem dX4_tick_0 : decode cX4_tick 0 = .ok (.iload_n 1, 1) := by decide +kernel
theorem dX4_tick_1 : decode cX4_tick 1 = .ok (.iconst 1, 1) := by decide +kernel
theorem dX4_tick_2 : decode cX4_tick 2 = .ok (.bipush 99, 2) := by decide +kernel
theorem dX4_tick_4 : decode cX4_tick 4 = .ok (.invokestatic 77, 3) := by decide +kernel
theorem dX4_tick_7 : decode cX4_tick 7 = .ok (.ifCond .ne 5, 3) := by decide +kernel
theorem dX4_tick_10 : decode cX4_tick 10 = .ok (.iconst (-1), 1) := by decide +kernel
theorem dX4_tick_11 : decode cX4_tick 11 = .ok (.ireturn, 1) := by decide +kernel
theorem dX4_tick_12 : decode cX4_tick 12 = .ok (.aload_n 0, 1) := by decide +kernel
theorem dX4_tick_13 : decode cX4_tick 13 = .ok (.getfield 19, 3) := by decide +kernel
theorem dX4_tick_16 : decode cX4_tick 16 = .ok (.getfield 81, 3) := by decide +kernel
theorem dX4_tick_19 : decode cX4_tick 19 = .ok (.iload_n 1, 1) := by decide +kernel
theorem dX4_tick_20 : decode cX4_tick 20 = .ok (.iadd, 1) := by decide +kernel
theorem dX4_tick_21 : decode cX4_tick 21 = .ok (.sipush 9999, 3) := by decide +kernel
theorem dX4_tick_24 : decode cX4_tick 24 = .ok (.if_icmp .le 6, 3) := by decide +kernel
theorem dX4_tick_27 : decode cX4_tick 27 = .ok (.bipush (-2), 2) := by decide +kernel
theorem dX4_tick_29 : decode cX4_tick 29 = .ok (.ireturn, 1) := by decide +kernel
theorem dX4_tick_30 : decode cX4_tick 30 = .ok (.aload_n 0, 1) := by decide +kernel
theorem dX4_tick_31 : decode cX4_tick 31 = .ok (.invokevirtual 84, 3) := by decide +kernel
theorem dX4_tick_34 : decode cX4_tick 34 = .ok (.aload_n 0, 1) := by decide +kernel
theorem dX4_tick_35 : decode cX4_tick 35 = .ok (.getfield 19, 3) := by decide +kernel
theorem dX4_tick_38 : decode cX4_tick 38 = .ok (.invokevirtual 87, 3) := by decide +kernel
theorem dX4_tick_41 : decode cX4_tick 41 = .ok (.istore_n 2, 1) := by decide +kernel
theorem dX4_tick_42 : decode cX4_tick 42 = .ok (.iconst 0, 1) := by decide +kernel
theorem dX4_tick_43 : decode cX4_tick 43 = .ok (.istore_n 3, 1) := by decide +kernel
theorem dX4_tick_44 : decode cX4_tick 44 = .ok (.iload_n 3, 1) := by decide +kernel
theorem dX4_tick_45 : decode cX4_tick 45 = .ok (.aload_n 0, 1) := by decide +kernel
theorem dX4_tick_46 : decode cX4_tick 46 = .ok (.getfield 19, 3) := by decide +kernel
theorem dX4_tick_49 : decode cX4_tick 49 = .ok (.getfield 71, 3) := by decide +kernel
theorem dX4_tick_52 : decode cX4_tick 52 = .ok (.if_icmp .ge 29, 3) := by decide +kernel
theorem dX4_tick_55 : decode cX4_tick 55 = .ok (.aload_n 0, 1) := by decide +kernel
theorem dX4_tick_56 : decode cX4_tick 56 = .ok (.getfield 19, 3) := by decide +kernel
theorem dX4_tick_59 : decode cX4_tick 59 = .ok (.getfield 90, 3) := by decide +kernel
theorem dX4_tick_62 : decode cX4_tick 62 = .ok (.iload_n 3, 1) := by decide +kernel
theorem dX4_tick_63 : decode cX4_tick 63 = .ok (.aaload, 1) := by decide +kernel
theorem dX4_tick_64 : decode cX4_tick 64 = .ok (.iload_n 1, 1) := by decide +kernel
theorem dX4_tick_65 : decode cX4_tick 65 = .ok (.aload_n 0, 1) := by decide +kernel
theorem dX4_tick_66 : decode cX4_tick 66 = .ok (.getfield 19, 3) := by decide +kernel
theorem dX4_tick_69 : decode cX4_tick 69 = .ok (.getfield 94, 3) := by decide +kernel
theorem dX4_tick_72 : decode cX4_tick 72 = .ok (.invokevirtual 97, 3) := by decide +kernel
theorem dX4_tick_75 : decode cX4_tick 75 = .ok (.iinc 3 1, 3) := by decide +kernel
theorem dX4_tick_78 : decode cX4_tick 78 = .ok (.goto (-34), 3) := by decide +kernel
theorem dX4_tick_81 : decode cX4_tick 81 = .ok (.aload_n 0, 1) := by decide +kernel
theorem dX4_tick_82 : decode cX4_tick 82 = .ok (.getfield 19, 3) := by decide +kernel
theorem dX4_tick_85 : decode cX4_tick 85 = .ok (.dup, 1) := by decide +kernel
theorem dX4_tick_86 : decode cX4_tick 86 = .ok (.getfield 81, 3) := by decide +kernel
theorem dX4_tick_89 : decode cX4_tick 89 = .ok (.iload_n 1, 1) := by decide +kernel
theorem dX4_tick_90 : decode cX4_tick 90 = .ok (.iadd, 1) := by decide +kernel
theorem dX4_tick_91 : decode cX4_tick 91 = .ok (.putfield 81, 3) := by decide +kernel
theorem dX4_tick_94 : decode cX4_tick 94 = .ok (.aload_n 0, 1) := by decide +kernel
theorem dX4_tick_95 : decode cX4_tick 95 = .ok (.getfield 19, 3) := by decide +kernel
theorem dX4_tick_98 : decode cX4_tick 98 = .ok (.invokevirtual 87, 3) := by decide +kernel
theorem dX4_tick_101 : decode cX4_tick 101 = .ok (.iload_n 2, 1) := by decide +kernel
theorem dX4_tick_102 : decode cX4_tick 102 = .ok (.isub, 1) := by decide +kernel
theorem dX4_tick_103 : decode cX4_tick 103 = .ok (.ireturn, 1) := by decide +kernel
theorem dX4_send_0 : decode cX4_send 0 = .ok (.aload_n 0, 1) := by decide +kernel
theorem dX4_send_1 : decode cX4_send 1 = .ok (.iload_n 1, 1) := by decide +kernel
theorem dX4_send_2 : decode cX4_send 2 = .ok (.invokevirtual 101, 3) := by decide +kernel
theorem dX4_send_5 : decode cX4_send 5 = .ok (.ifCond .eq 14, 3) := by decide +kernel
theorem dX4_send_8 : decode cX4_send 8 = .ok (.iload_n 2, 1) := by decide +kernel
theorem dX4_send_9 : decode cX4_send 9 = .ok (.iconst 1, 1) := by decide +kernel
theorem dX4_send_10 : decode cX4_send 10 = .ok (.sipush 999, 3) := by decide +kernel
theorem dX4_send_13 : decode cX4_send 13 = .ok (.invokestatic 77, 3) := by decide +kernel
theorem dX4_send_16 : decode cX4_send 16 = .ok (.ifCond .ne 5, 3) := by decide +kernel
theorem dX4_send_19 : decode cX4_send 19 = .ok (.iconst (-1), 1) := by decide +kernel
theorem dX4_send_20 : decode cX4_send 20 = .ok (.ireturn, 1) := by decide +kernel
theorem dX4_send_21 : decode cX4_send 21 = .ok (.aload_n 0, 1) := by decide +kernel
theorem dX4_send_22 : decode cX4_send 22 = .ok (.getfield 19, 3) := by decide +kernel
theorem dX4_send_25 : decode cX4_send 25 = .ok (.getfield 90, 3) := by decide +kernel
theorem dX4_send_28 : decode cX4_send 28 = .ok (.iload_n 1, 1) := by decide +kernel
theorem dX4_send_29 : decode cX4_send 29 = .ok (.aaload, 1) := by decide +kernel
theorem dX4_send_30 : decode cX4_send 30 = .ok (.getfield 105, 3) := by decide +kernel
theorem dX4_send_33 : decode cX4_send 33 = .ok (.ldc 108, 2) := by decide +kernel
theorem dX4_send_35 : decode cX4_send 35 = .ok (.if_icmp .lt 6, 3) := by decide +kernel
theorem dX4_send_38 : decode cX4_send 38 = .ok (.bipush (-2), 2) := by decide +kernel
theorem dX4_send_40 : decode cX4_send 40 = .ok (.ireturn, 1) := by decide +kernel
theorem dX4_send_41 : decode cX4_send 41 = .ok (.aload_n 0, 1) := by decide +kernel
theorem dX4_send_42 : decode cX4_send 42 = .ok (.invokevirtual 84, 3) := by decide +kernel
theorem dX4_send_45 : decode cX4_send 45 = .ok (.aload_n 0, 1) := by decide +kernel
theorem dX4_send_46 : decode cX4_send 46 = .ok (.getfield 19, 3) := by decide +kernel
theorem dX4_send_49 : decode cX4_send 49 = .ok (.getfield 90, 3) := by decide +kernel
theorem dX4_send_52 : decode cX4_send 52 = .ok (.iload_n 1, 1) := by decide +kernel
theorem dX4_send_53 : decode cX4_send 53 = .ok (.aaload, 1) := by decide +kernel
theorem dX4_send_54 : decode cX4_send 54 = .ok (.iload_n 2, 1) := by decide +kernel
theorem dX4_send_55 : decode cX4_send 55 = .ok (.aload_n 0, 1) := by decide +kernel
theorem dX4_send_56 : decode cX4_send 56 = .ok (.getfield 19, 3) := by decide +kernel
theorem dX4_send_59 : decode cX4_send 59 = .ok (.getfield 94, 3) := by decide +kernel
theorem dX4_send_62 : decode cX4_send 62 = .ok (.invokevirtual 109, 3) := by decide +kernel
theorem dX4_send_65 : decode cX4_send 65 = .ok (.ireturn, 1) := by decide +kernel
theorem dX4_limit_0 : decode cX4_limit 0 = .ok (.aload_n 0, 1) := by decide +kernel
theorem dX4_limit_1 : decode cX4_limit 1 = .ok (.iload_n 1, 1) := by decide +kernel
theorem dX4_limit_2 : decode cX4_limit 2 = .ok (.iload_n 2, 1) := by decide +kernel
theorem dX4_limit_3 : decode cX4_limit 3 = .ok (.invokevirtual 113, 3) := by decide +kernel
theorem dX4_limit_6 : decode cX4_limit 6 = .ok (.ifCond .eq 15, 3) := by decide +kernel
theorem dX4_limit_9 : decode cX4_limit 9 = .ok (.iload_n 3, 1) := by decide +kernel
theorem dX4_limit_10 : decode cX4_limit 10 = .ok (.bipush 20, 2) := by decide +kernel
theorem dX4_limit_12 : decode cX4_limit 12 = .ok (.sipush 999, 3) := by decide +kernel
theorem dX4_limit_15 : decode cX4_limit 15 = .ok (.invokestatic 77, 3) := by decide +kernel
theorem dX4_limit_18 : decode cX4_limit 18 = .ok (.ifCond .ne 5, 3) := by decide +kernel
theorem dX4_limit_21 : decode cX4_limit 21 = .ok (.iconst (-1), 1) := by decide +kernel
theorem dX4_limit_22 : decode cX4_limit 22 = .ok (.ireturn, 1) := by decide +kernel
theorem dX4_limit_23 : decode cX4_limit 23 = .ok (.aload_n 0, 1) := by decide +kernel
theorem dX4_limit_24 : decode cX4_limit 24 = .ok (.getfield 19, 3) := by decide +kernel
theorem dX4_limit_27 : decode cX4_limit 27 = .ok (.getfield 90, 3) := by decide +kernel
theorem dX4_limit_30 : decode cX4_limit 30 = .ok (.iload_n 1, 1) := by decide +kernel
theorem dX4_limit_31 : decode cX4_limit 31 = .ok (.aaload, 1) := by decide +kernel
theorem dX4_limit_32 : decode cX4_limit 32 = .ok (.getfield 117, 3) := by decide +kernel
theorem dX4_limit_35 : decode cX4_limit 35 = .ok (.iload_n 2, 1) := by decide +kernel
theorem dX4_limit_36 : decode cX4_limit 36 = .ok (.iaload, 1) := by decide +kernel
theorem dX4_limit_37 : decode cX4_limit 37 = .ok (.istore 4, 2) := by decide +kernel
theorem dX4_limit_39 : decode cX4_limit 39 = .ok (.iload 4, 2) := by decide +kernel
theorem dX4_limit_41 : decode cX4_limit 41 = .ok (.iload_n 3, 1) := by decide +kernel
theorem dX4_limit_42 : decode cX4_limit 42 = .ok (.if_icmp .ne 6, 3) := by decide +kernel
theorem dX4_limit_45 : decode cX4_limit 45 = .ok (.bipush (-2), 2) := by decide +kernel
theorem dX4_limit_47 : decode cX4_limit 47 = .ok (.ireturn, 1) := by decide +kernel
theorem dX4_limit_48 : decode cX4_limit 48 = .ok (.aload_n 0, 1) := by decide +kernel
theorem dX4_limit_49 : decode cX4_limit 49 = .ok (.invokevirtual 84, 3) := by decide +kernel
theorem dX4_limit_52 : decode cX4_limit 52 = .ok (.aload_n 0, 1) := by decide +kernel
theorem dX4_limit_53 : decode cX4_limit 53 = .ok (.getfield 19, 3) := by decide +kernel
theorem dX4_limit_56 : decode cX4_limit 56 = .ok (.getfield 90, 3) := by decide +kernel
theorem dX4_limit_59 : decode cX4_limit 59 = .ok (.iload_n 1, 1) := by decide +kernel
theorem dX4_limit_60 : decode cX4_limit 60 = .ok (.aaload, 1) := by decide +kernel
theorem dX4_limit_61 : decode cX4_limit 61 = .ok (.getfield 117, 3) := by decide +kernel
theorem dX4_limit_64 : decode cX4_limit 64 = .ok (.iload_n 2, 1) := by decide +kernel
theorem dX4_limit_65 : decode cX4_limit 65 = .ok (.iload_n 3, 1) := by decide +kernel
theorem dX4_limit_66 : decode cX4_limit 66 = .ok (.iastore, 1) := by decide +kernel
theorem dX4_limit_67 : decode cX4_limit 67 = .ok (.iload 4, 2) := by decide +kernel
theorem dX4_limit_69 : decode cX4_limit 69 = .ok (.ireturn, 1) := by decide +kernel
theorem dX4_kind_0 : decode cX4_kind 0 = .ok (.aload_n 0, 1) := by decide +kernel
theorem dX4_kind_1 : decode cX4_kind 1 = .ok (.iload_n 1, 1) := by decide +kernel
theorem dX4_kind_2 : decode cX4_kind 2 = .ok (.iload_n 2, 1) := by decide +kernel
theorem dX4_kind_3 : decode cX4_kind 3 = .ok (.invokevirtual 113, 3) := by decide +kernel
theorem dX4_kind_6 : decode cX4_kind 6 = .ok (.ifCond .eq 12, 3) := by decide +kernel
theorem dX4_kind_9 : decode cX4_kind 9 = .ok (.iload_n 3, 1) := by decide +kernel
theorem dX4_kind_10 : decode cX4_kind 10 = .ok (.iconst 0, 1) := by decide +kernel
theorem dX4_kind_11 : decode cX4_kind 11 = .ok (.iconst 3, 1) := by decide +kernel
theorem dX4_kind_12 : decode cX4_kind 12 = .ok (.invokestatic 77, 3) := by decide +kernel
theorem dX4_kind_15 : decode cX4_kind 15 = .ok (.ifCond .ne 5, 3) := by decide +kernel
theorem dX4_kind_18 : decode cX4_kind 18 = .ok (.iconst (-1), 1) := by decide +kernel
theorem dX4_kind_19 : decode cX4_kind 19 = .ok (.ireturn, 1) := by decide +kernel
theorem dX4_kind_20 : decode cX4_kind 20 = .ok (.aload_n 0, 1) := by decide +kernel
theorem dX4_kind_21 : decode cX4_kind 21 = .ok (.getfield 19, 3) := by decide +kernel
theorem dX4_kind_24 : decode cX4_kind 24 = .ok (.getfield 90, 3) := by decide +kernel
theorem dX4_kind_27 : decode cX4_kind 27 = .ok (.iload_n 1, 1) := by decide +kernel
theorem dX4_kind_28 : decode cX4_kind 28 = .ok (.aaload, 1) := by decide +kernel
theorem dX4_kind_29 : decode cX4_kind 29 = .ok (.getfield 121, 3) := by decide +kernel
theorem dX4_kind_32 : decode cX4_kind 32 = .ok (.iload_n 2, 1) := by decide +kernel
theorem dX4_kind_33 : decode cX4_kind 33 = .ok (.iaload, 1) := by decide +kernel
theorem dX4_kind_34 : decode cX4_kind 34 = .ok (.istore 4, 2) := by decide +kernel
theorem dX4_kind_36 : decode cX4_kind 36 = .ok (.iload 4, 2) := by decide +kernel
theorem dX4_kind_38 : decode cX4_kind 38 = .ok (.iload_n 3, 1) := by decide +kernel
theorem dX4_kind_39 : decode cX4_kind 39 = .ok (.if_icmp .ne 6, 3) := by decide +kernel
theorem dX4_kind_42 : decode cX4_kind 42 = .ok (.bipush (-2), 2) := by decide +kernel
theorem dX4_kind_44 : decode cX4_kind 44 = .ok (.ireturn, 1) := by decide +kernel
theorem dX4_kind_45 : decode cX4_kind 45 = .ok (.aload_n 0, 1) := by decide +kernel
theorem dX4_kind_46 : decode cX4_kind 46 = .ok (.invokevirtual 84, 3) := by decide +kernel
theorem dX4_kind_49 : decode cX4_kind 49 = .ok (.aload_n 0, 1) := by decide +kernel
theorem dX4_kind_50 : decode cX4_kind 50 = .ok (.getfield 19, 3) := by decide +kernel
theorem dX4_kind_53 : decode cX4_kind 53 = .ok (.getfield 90, 3) := by decide +kernel
theorem dX4_kind_56 : decode cX4_kind 56 = .ok (.iload_n 1, 1) := by decide +kernel
theorem dX4_kind_57 : decode cX4_kind 57 = .ok (.aaload, 1) := by decide +kernel
theorem dX4_kind_58 : decode cX4_kind 58 = .ok (.getfield 121, 3) := by decide +kernel
theorem dX4_kind_61 : decode cX4_kind 61 = .ok (.iload_n 2, 1) := by decide +kernel
theorem dX4_kind_62 : decode cX4_kind 62 = .ok (.iload_n 3, 1) := by decide +kernel
theorem dX4_kind_63 : decode cX4_kind 63 = .ok (.iastore, 1) := by decide +kernel
theorem dX4_kind_64 : decode cX4_kind 64 = .ok (.iload 4, 2) := by decide +kernel
theorem dX4_kind_66 : decode cX4_kind 66 = .ok (.ireturn, 1) := by decide +kernel
theorem dX4_loss_0 : decode cX4_loss 0 = .ok (.aload_n 0, 1) := by decide +kernel
theorem dX4_loss_1 : decode cX4_loss 1 = .ok (.iload_n 1, 1) := by decide +kernel
theorem dX4_loss_2 : decode cX4_loss 2 = .ok (.invokevirtual 101, 3) := by decide +kernel
theorem dX4_loss_5 : decode cX4_loss 5 = .ok (.ifCond .eq 13, 3) := by decide +kernel
theorem dX4_loss_8 : decode cX4_loss 8 = .ok (.iload_n 2, 1) := by decide +kernel
theorem dX4_loss_9 : decode cX4_loss 9 = .ok (.iconst 0, 1) := by decide +kernel
theorem dX4_loss_10 : decode cX4_loss 10 = .ok (.bipush 99, 2) := by decide +kernel
theorem dX4_loss_12 : decode cX4_loss 12 = .ok (.invokestatic 77, 3) := by decide +kernel
theorem dX4_loss_15 : decode cX4_loss 15 = .ok (.ifCond .ne 5, 3) := by decide +kernel
theorem dX4_loss_18 : decode cX4_loss 18 = .ok (.iconst (-1), 1) := by decide +kernel
theorem dX4_loss_19 : decode cX4_loss 19 = .ok (.ireturn, 1) := by decide +kernel
theorem dX4_loss_20 : decode cX4_loss 20 = .ok (.aload_n 0, 1) := by decide +kernel
theorem dX4_loss_21 : decode cX4_loss 21 = .ok (.getfield 19, 3) := by decide +kernel
theorem dX4_loss_24 : decode cX4_loss 24 = .ok (.getfield 90, 3) := by decide +kernel
theorem dX4_loss_27 : decode cX4_loss 27 = .ok (.iload_n 1, 1) := by decide +kernel
theorem dX4_loss_28 : decode cX4_loss 28 = .ok (.aaload, 1) := by decide +kernel
theorem dX4_loss_29 : decode cX4_loss 29 = .ok (.getfield 124, 3) := by decide +kernel
theorem dX4_loss_32 : decode cX4_loss 32 = .ok (.istore_n 3, 1) := by decide +kernel
theorem dX4_loss_33 : decode cX4_loss 33 = .ok (.iload_n 3, 1) := by decide +kernel
theorem dX4_loss_34 : decode cX4_loss 34 = .ok (.iload_n 2, 1) := by decide +kernel
theorem dX4_loss_35 : decode cX4_loss 35 = .ok (.if_icmp .ne 6, 3) := by decide +kernel
theorem dX4_loss_38 : decode cX4_loss 38 = .ok (.bipush (-2), 2) := by decide +kernel
theorem dX4_loss_40 : decode cX4_loss 40 = .ok (.ireturn, 1) := by decide +kernel
theorem dX4_loss_41 : decode cX4_loss 41 = .ok (.aload_n 0, 1) := by decide +kernel
theorem dX4_loss_42 : decode cX4_loss 42 = .ok (.invokevirtual 84, 3) := by decide +kernel
theorem dX4_loss_45 : decode cX4_loss 45 = .ok (.aload_n 0, 1) := by decide +kernel
theorem dX4_loss_46 : decode cX4_loss 46 = .ok (.getfield 19, 3) := by decide +kernel
theorem dX4_loss_49 : decode cX4_loss 49 = .ok (.getfield 90, 3) := by decide +kernel
theorem dX4_loss_52 : decode cX4_loss 52 = .ok (.iload_n 1, 1) := by decide +kernel
theorem dX4_loss_53 : decode cX4_loss 53 = .ok (.aaload, 1) := by decide +kernel
theorem dX4_loss_54 : decode cX4_loss 54 = .ok (.iload_n 2, 1) := by decide +kernel
theorem dX4_loss_55 : decode cX4_loss 55 = .ok (.putfield 124, 3) := by decide +kernel
theorem dX4_loss_58 : decode cX4_loss 58 = .ok (.iload_n 3, 1) := by decide +kernel
theorem dX4_loss_59 : decode cX4_loss 59 = .ok (.ireturn, 1) := by decide +kernel
theorem dX4_believe_0 : decode cX4_believe 0 = .ok (.iload_n 1, 1) := by decide +kernel
theorem dX4_believe_1 : decode cX4_believe 1 = .ok (.iconst 0, 1) := by decide +kernel
theorem dX4_believe_2 : decode cX4_believe 2 = .ok (.iconst 2, 1) := by decide +kernel
theorem dX4_believe_3 : decode cX4_believe 3 = .ok (.invokestatic 77, 3) := by decide +kernel
theorem dX4_believe_6 : decode cX4_believe 6 = .ok (.ifCond .ne 5, 3) := by decide +kernel
theorem dX4_believe_9 : decode cX4_believe 9 = .ok (.iconst (-1), 1) := by decide +kernel
theorem dX4_believe_10 : decode cX4_believe 10 = .ok (.ireturn, 1) := by decide +kernel
theorem dX4_believe_11 : decode cX4_believe 11 = .ok (.aload_n 0, 1) := by decide +kernel
theorem dX4_believe_12 : decode cX4_believe 12 = .ok (.getfield 19, 3) := by decide +kernel
theorem dX4_believe_15 : decode cX4_believe 15 = .ok (.getfield 94, 3) := by decide +kernel
theorem dX4_believe_18 : decode cX4_believe 18 = .ok (.getfield 127, 3) := by decide +kernel
theorem dX4_believe_21 : decode cX4_believe 21 = .ok (.istore_n 2, 1) := by decide +kernel
theorem dX4_believe_22 : decode cX4_believe 22 = .ok (.iload_n 2, 1) := by decide +kernel
theorem dX4_believe_23 : decode cX4_believe 23 = .ok (.iload_n 1, 1) := by decide +kernel
theorem dX4_believe_24 : decode cX4_believe 24 = .ok (.if_icmp .ne 6, 3) := by decide +kernel
theorem dX4_believe_27 : decode cX4_believe 27 = .ok (.bipush (-2), 2) := by decide +kernel
theorem dX4_believe_29 : decode cX4_believe 29 = .ok (.ireturn, 1) := by decide +kernel
theorem dX4_believe_30 : decode cX4_believe 30 = .ok (.aload_n 0, 1) := by decide +kernel
theorem dX4_believe_31 : decode cX4_believe 31 = .ok (.invokevirtual 84, 3) := by decide +kernel
theorem dX4_believe_34 : decode cX4_believe 34 = .ok (.aload_n 0, 1) := by decide +kernel
theorem dX4_believe_35 : decode cX4_believe 35 = .ok (.getfield 19, 3) := by decide +kernel
theorem dX4_believe_38 : decode cX4_believe 38 = .ok (.getfield 94, 3) := by decide +kernel
theorem dX4_believe_41 : decode cX4_believe 41 = .ok (.iload_n 1, 1) := by decide +kernel
theorem dX4_believe_42 : decode cX4_believe 42 = .ok (.putfield 127, 3) := by decide +kernel
theorem dX4_believe_45 : decode cX4_believe 45 = .ok (.iload_n 2, 1) := by decide +kernel
theorem dX4_believe_46 : decode cX4_believe 46 = .ok (.ireturn, 1) := by decide +kernel
theorem dX4_undo_0 : decode cX4_undo 0 = .ok (.aload_n 0, 1) := by decide +kernel
theorem dX4_undo_1 : decode cX4_undo 1 = .ok (.getfield 74, 3) := by decide +kernel
theorem dX4_undo_4 : decode cX4_undo 4 = .ok (.ifCond .ne 6, 3) := by decide +kernel
theorem dX4_undo_7 : decode cX4_undo 7 = .ok (.bipush (-2), 2) := by decide +kernel
theorem dX4_undo_9 : decode cX4_undo 9 = .ok (.ireturn, 1) := by decide +kernel
theorem dX4_undo_10 : decode cX4_undo 10 = .ok (.aload_n 0, 1) := by decide +kernel
theorem dX4_undo_11 : decode cX4_undo 11 = .ok (.aload_n 0, 1) := by decide +kernel
theorem dX4_undo_12 : decode cX4_undo 12 = .ok (.getfield 130, 3) := by decide +kernel
theorem dX4_undo_15 : decode cX4_undo 15 = .ok (.ifCond .ne 7, 3) := by decide +kernel
theorem dX4_undo_18 : decode cX4_undo 18 = .ok (.iconst 3, 1) := by decide +kernel
theorem dX4_undo_19 : decode cX4_undo 19 = .ok (.goto 9, 3) := by decide +kernel
theorem dX4_undo_22 : decode cX4_undo 22 = .ok (.aload_n 0, 1) := by decide +kernel
theorem dX4_undo_23 : decode cX4_undo 23 = .ok (.getfield 130, 3) := by decide +kernel
theorem dX4_undo_26 : decode cX4_undo 26 = .ok (.iconst 1, 1) := by decide +kernel
theorem dX4_undo_27 : decode cX4_undo 27 = .ok (.isub, 1) := by decide +kernel
theorem dX4_undo_28 : decode cX4_undo 28 = .ok (.putfield 130, 3) := by decide +kernel
theorem dX4_undo_31 : decode cX4_undo 31 = .ok (.aload_n 0, 1) := by decide +kernel
theorem dX4_undo_32 : decode cX4_undo 32 = .ok (.getfield 19, 3) := by decide +kernel
theorem dX4_undo_35 : decode cX4_undo 35 = .ok (.aload_n 0, 1) := by decide +kernel
theorem dX4_undo_36 : decode cX4_undo 36 = .ok (.getfield 26, 3) := by decide +kernel
theorem dX4_undo_39 : decode cX4_undo 39 = .ok (.aload_n 0, 1) := by decide +kernel
theorem dX4_undo_40 : decode cX4_undo 40 = .ok (.getfield 130, 3) := by decide +kernel
theorem dX4_undo_43 : decode cX4_undo 43 = .ok (.aaload, 1) := by decide +kernel
theorem dX4_undo_44 : decode cX4_undo 44 = .ok (.invokevirtual 64, 3) := by decide +kernel
theorem dX4_undo_47 : decode cX4_undo 47 = .ok (.aload_n 0, 1) := by decide +kernel
theorem dX4_undo_48 : decode cX4_undo 48 = .ok (.dup, 1) := by decide +kernel
theorem dX4_undo_49 : decode cX4_undo 49 = .ok (.getfield 74, 3) := by decide +kernel
theorem dX4_undo_52 : decode cX4_undo 52 = .ok (.iconst 1, 1) := by decide +kernel
theorem dX4_undo_53 : decode cX4_undo 53 = .ok (.isub, 1) := by decide +kernel
theorem dX4_undo_54 : decode cX4_undo 54 = .ok (.putfield 74, 3) := by decide +kernel
theorem dX4_undo_57 : decode cX4_undo 57 = .ok (.aload_n 0, 1) := by decide +kernel
theorem dX4_undo_58 : decode cX4_undo 58 = .ok (.getfield 74, 3) := by decide +kernel
theorem dX4_undo_61 : decode cX4_undo 61 = .ok (.ireturn, 1) := by decide +kernel
theorem dX4_way_0 : decode cX4_way 0 = .ok (.aload_n 0, 1) := by decide +kernel
theorem dX4_way_1 : decode cX4_way 1 = .ok (.iload_n 1, 1) := by decide +kernel
theorem dX4_way_2 : decode cX4_way 2 = .ok (.invokevirtual 101, 3) := by decide +kernel
theorem dX4_way_5 : decode cX4_way 5 = .ok (.ifCond .eq 19, 3) := by decide +kernel
theorem dX4_way_8 : decode cX4_way 8 = .ok (.aload_n 0, 1) := by decide +kernel
theorem dX4_way_9 : decode cX4_way 9 = .ok (.getfield 19, 3) := by decide +kernel
theorem dX4_way_12 : decode cX4_way 12 = .ok (.getfield 90, 3) := by decide +kernel
theorem dX4_way_15 : decode cX4_way 15 = .ok (.iload_n 1, 1) := by decide +kernel
theorem dX4_way_16 : decode cX4_way 16 = .ok (.aaload, 1) := by decide +kernel
theorem dX4_way_17 : decode cX4_way 17 = .ok (.iload_n 2, 1) := by decide +kernel
theorem dX4_way_18 : decode cX4_way 18 = .ok (.invokevirtual 133, 3) := by decide +kernel
theorem dX4_way_21 : decode cX4_way 21 = .ok (.goto 4, 3) := by decide +kernel
theorem dX4_way_24 : decode cX4_way 24 = .ok (.iconst (-1), 1) := by decide +kernel
theorem dX4_way_25 : decode cX4_way 25 = .ok (.ireturn, 1) := by decide +kernel
theorem dX4_hop_0 : decode cX4_hop 0 = .ok (.aload_n 0, 1) := by decide +kernel
theorem dX4_hop_1 : decode cX4_hop 1 = .ok (.iload_n 1, 1) := by decide +kernel
theorem dX4_hop_2 : decode cX4_hop 2 = .ok (.iload_n 2, 1) := by decide +kernel
theorem dX4_hop_3 : decode cX4_hop 3 = .ok (.invokevirtual 113, 3) := by decide +kernel
theorem dX4_hop_6 : decode cX4_hop 6 = .ok (.ifCond .eq 12, 3) := by decide +kernel
theorem dX4_hop_9 : decode cX4_hop 9 = .ok (.iload_n 3, 1) := by decide +kernel
theorem dX4_hop_10 : decode cX4_hop 10 = .ok (.iconst 0, 1) := by decide +kernel
theorem dX4_hop_11 : decode cX4_hop 11 = .ok (.iconst 1, 1) := by decide +kernel
theorem dX4_hop_12 : decode cX4_hop 12 = .ok (.invokestatic 77, 3) := by decide +kernel
theorem dX4_hop_15 : decode cX4_hop 15 = .ok (.ifCond .ne 5, 3) := by decide +kernel
theorem dX4_hop_18 : decode cX4_hop 18 = .ok (.iconst (-1), 1) := by decide +kernel
theorem dX4_hop_19 : decode cX4_hop 19 = .ok (.ireturn, 1) := by decide +kernel
theorem dX4_hop_20 : decode cX4_hop 20 = .ok (.iload_n 3, 1) := by decide +kernel
theorem dX4_hop_21 : decode cX4_hop 21 = .ok (.ifCond .ne 20, 3) := by decide +kernel
theorem dX4_hop_24 : decode cX4_hop 24 = .ok (.aload_n 0, 1) := by decide +kernel
theorem dX4_hop_25 : decode cX4_hop 25 = .ok (.getfield 19, 3) := by decide +kernel
theorem dX4_hop_28 : decode cX4_hop 28 = .ok (.getfield 90, 3) := by decide +kernel
theorem dX4_hop_31 : decode cX4_hop 31 = .ok (.iload_n 1, 1) := by decide +kernel
theorem dX4_hop_32 : decode cX4_hop 32 = .ok (.aaload, 1) := by decide +kernel
theorem dX4_hop_33 : decode cX4_hop 33 = .ok (.getfield 117, 3) := by decide +kernel
theorem dX4_hop_36 : decode cX4_hop 36 = .ok (.iload_n 2, 1) := by decide +kernel
theorem dX4_hop_37 : decode cX4_hop 37 = .ok (.iaload, 1) := by decide +kernel
theorem dX4_hop_38 : decode cX4_hop 38 = .ok (.goto 17, 3) := by decide +kernel
theorem dX4_hop_41 : decode cX4_hop 41 = .ok (.aload_n 0, 1) := by decide +kernel
theorem dX4_hop_42 : decode cX4_hop 42 = .ok (.getfield 19, 3) := by decide +kernel
theorem dX4_hop_45 : decode cX4_hop 45 = .ok (.getfield 90, 3) := by decide +kernel
theorem dX4_hop_48 : decode cX4_hop 48 = .ok (.iload_n 1, 1) := by decide +kernel
theorem dX4_hop_49 : decode cX4_hop 49 = .ok (.aaload, 1) := by decide +kernel
theorem dX4_hop_50 : decode cX4_hop 50 = .ok (.getfield 121, 3) := by decide +kernel
theorem dX4_hop_53 : decode cX4_hop 53 = .ok (.iload_n 2, 1) := by decide +kernel
theorem dX4_hop_54 : decode cX4_hop 54 = .ok (.iaload, 1) := by decide +kernel
theorem dX4_hop_55 : decode cX4_hop 55 = .ok (.ireturn, 1) := by decide +kernel
theorem dX4_probe_0 : decode cX4_probe 0 = .ok (.aload_n 0, 1) := by decide +kernel
theorem dX4_probe_1 : decode cX4_probe 1 = .ok (.iload_n 1, 1) := by decide +kernel
theorem dX4_probe_2 : decode cX4_probe 2 = .ok (.invokevirtual 101, 3) := by decide +kernel
theorem dX4_probe_5 : decode cX4_probe 5 = .ok (.ifCond .ne 5, 3) := by decide +kernel
theorem dX4_probe_8 : decode cX4_probe 8 = .ok (.iconst (-1), 1) := by decide +kernel
theorem dX4_probe_9 : decode cX4_probe 9 = .ok (.ireturn, 1) := by decide +kernel
theorem dX4_probe_10 : decode cX4_probe 10 = .ok (.aload_n 0, 1) := by decide +kernel
theorem dX4_probe_11 : decode cX4_probe 11 = .ok (.getfield 19, 3) := by decide +kernel
theorem dX4_probe_14 : decode cX4_probe 14 = .ok (.getfield 90, 3) := by decide +kernel
theorem dX4_probe_17 : decode cX4_probe 17 = .ok (.iload_n 1, 1) := by decide +kernel
theorem dX4_probe_18 : decode cX4_probe 18 = .ok (.aaload, 1) := by decide +kernel
theorem dX4_probe_19 : decode cX4_probe 19 = .ok (.invokevirtual 137, 3) := by decide +kernel
theorem dX4_probe_22 : decode cX4_probe 22 = .ok (.ifCond .eq 8, 3) := by decide +kernel
theorem dX4_probe_25 : decode cX4_probe 25 = .ok (.bipush (-4), 2) := by decide +kernel
theorem dX4_probe_27 : decode cX4_probe 27 = .ok (.goto 15, 3) := by decide +kernel
theorem dX4_probe_30 : decode cX4_probe 30 = .ok (.aload_n 0, 1) := by decide +kernel
theorem dX4_probe_31 : decode cX4_probe 31 = .ok (.getfield 19, 3) := by decide +kernel
theorem dX4_probe_34 : decode cX4_probe 34 = .ok (.getfield 90, 3) := by decide +kernel
theorem dX4_probe_37 : decode cX4_probe 37 = .ok (.iload_n 1, 1) := by decide +kernel
theorem dX4_probe_38 : decode cX4_probe 38 = .ok (.aaload, 1) := by decide +kernel
theorem dX4_probe_39 : decode cX4_probe 39 = .ok (.invokevirtual 141, 3) := by decide +kernel
theorem dX4_probe_42 : decode cX4_probe 42 = .ok (.ireturn, 1) := by decide +kernel
theorem dX4_padding_0 : decode cX4_padding 0 = .ok (.aload_n 0, 1) := by decide +kernel
theorem dX4_padding_1 : decode cX4_padding 1 = .ok (.iload_n 1, 1) := by decide +kernel
theorem dX4_padding_2 : decode cX4_padding 2 = .ok (.invokevirtual 101, 3) := by decide +kernel
theorem dX4_padding_5 : decode cX4_padding 5 = .ok (.ifCond .eq 14, 3) := by decide +kernel
theorem dX4_padding_8 : decode cX4_padding 8 = .ok (.iload_n 2, 1) := by decide +kernel
theorem dX4_padding_9 : decode cX4_padding 9 = .ok (.iconst 0, 1) := by decide +kernel
theorem dX4_padding_10 : decode cX4_padding 10 = .ok (.sipush 999, 3) := by decide +kernel
theorem dX4_padding_13 : decode cX4_padding 13 = .ok (.invokestatic 77, 3) := by decide +kernel
theorem dX4_padding_16 : decode cX4_padding 16 = .ok (.ifCond .ne 5, 3) := by decide +kernel
theorem dX4_padding_19 : decode cX4_padding 19 = .ok (.iconst (-1), 1) := by decide +kernel
theorem dX4_padding_20 : decode cX4_padding 20 = .ok (.ireturn, 1) := by decide +kernel
theorem dX4_padding_21 : decode cX4_padding 21 = .ok (.aload_n 0, 1) := by decide +kernel
theorem dX4_padding_22 : decode cX4_padding 22 = .ok (.getfield 19, 3) := by decide +kernel
theorem dX4_padding_25 : decode cX4_padding 25 = .ok (.getfield 90, 3) := by decide +kernel
theorem dX4_padding_28 : decode cX4_padding 28 = .ok (.iload_n 1, 1) := by decide +kernel
theorem dX4_padding_29 : decode cX4_padding 29 = .ok (.aaload, 1) := by decide +kernel
theorem dX4_padding_30 : decode cX4_padding 30 = .ok (.invokevirtual 137, 3) := by decide +kernel
theorem dX4_padding_33 : decode cX4_padding 33 = .ok (.ifCond .eq 6, 3) := by decide +kernel
theorem dX4_padding_36 : decode cX4_padding 36 = .ok (.bipush (-4), 2) := by decide +kernel
theorem dX4_padding_38 : decode cX4_padding 38 = .ok (.ireturn, 1) := by decide +kernel
theorem dX4_padding_39 : decode cX4_padding 39 = .ok (.aload_n 0, 1) := by decide +kernel
theorem dX4_padding_40 : decode cX4_padding 40 = .ok (.getfield 19, 3) := by decide +kernel
theorem dX4_padding_43 : decode cX4_padding 43 = .ok (.getfield 90, 3) := by decide +kernel
theorem dX4_padding_46 : decode cX4_padding 46 = .ok (.iload_n 1, 1) := by decide +kernel
theorem dX4_padding_47 : decode cX4_padding 47 = .ok (.aaload, 1) := by decide +kernel
theorem dX4_padding_48 : decode cX4_padding 48 = .ok (.invokevirtual 141, 3) := by decide +kernel
theorem dX4_padding_51 : decode cX4_padding 51 = .ok (.istore_n 3, 1) := by decide +kernel
theorem dX4_padding_52 : decode cX4_padding 52 = .ok (.iload_n 2, 1) := by decide +kernel
theorem dX4_padding_53 : decode cX4_padding 53 = .ok (.iload_n 3, 1) := by decide +kernel
theorem dX4_padding_54 : decode cX4_padding 54 = .ok (.if_icmp .le 8, 3) := by decide +kernel
theorem dX4_padding_57 : decode cX4_padding 57 = .ok (.bipush (-2), 2) := by decide +kernel
theorem dX4_padding_59 : decode cX4_padding 59 = .ok (.goto 6, 3) := by decide +kernel
theorem dX4_padding_62 : decode cX4_padding 62 = .ok (.iload_n 3, 1) := by decide +kernel
theorem dX4_padding_63 : decode cX4_padding 63 = .ok (.iload_n 2, 1) := by decide +kernel
theorem dX4_padding_64 : decode cX4_padding 64 = .ok (.isub, 1) := by decide +kernel
theorem dX4_padding_65 : decode cX4_padding 65 = .ok (.ireturn, 1) := by decide +kernel
theorem dX4_meets_0 : decode cX4_meets 0 = .ok (.aload_n 0, 1) := by decide +kernel
theorem dX4_meets_1 : decode cX4_meets 1 = .ok (.iload_n 1, 1) := by decide +kernel
theorem dX4_meets_2 : decode cX4_meets 2 = .ok (.invokevirtual 101, 3) := by decide +kernel
theorem dX4_meets_5 : decode cX4_meets 5 = .ok (.ifCond .eq 23, 3) := by decide +kernel
theorem dX4_meets_8 : decode cX4_meets 8 = .ok (.iload_n 2, 1) := by decide +kernel
theorem dX4_meets_9 : decode cX4_meets 9 = .ok (.iconst 1, 1) := by decide +kernel
theorem dX4_meets_10 : decode cX4_meets 10 = .ok (.sipush 999, 3) := by decide +kernel
theorem dX4_meets_13 : decode cX4_meets 13 = .ok (.invokestatic 77, 3) := by decide +kernel
theorem dX4_meets_16 : decode cX4_meets 16 = .ok (.ifCond .eq 12, 3) := by decide +kernel
theorem dX4_meets_19 : decode cX4_meets 19 = .ok (.iload_n 3, 1) := by decide +kernel
theorem dX4_meets_20 : decode cX4_meets 20 = .ok (.iconst 0, 1) := by decide +kernel
theorem dX4_meets_21 : decode cX4_meets 21 = .ok (.iconst 1, 1) := by decide +kernel
theorem dX4_meets_22 : decode cX4_meets 22 = .ok (.invokestatic 77, 3) := by decide +kernel
theorem dX4_meets_25 : decode cX4_meets 25 = .ok (.ifCond .ne 5, 3) := by decide +kernel
theorem dX4_meets_28 : decode cX4_meets 28 = .ok (.iconst (-1), 1) := by decide +kernel
theorem dX4_meets_29 : decode cX4_meets 29 = .ok (.ireturn, 1) := by decide +kernel
theorem dX4_meets_30 : decode cX4_meets 30 = .ok (.iload_n 3, 1) := by decide +kernel
theorem dX4_meets_31 : decode cX4_meets 31 = .ok (.ifCond .ne 19, 3) := by decide +kernel
theorem dX4_meets_34 : decode cX4_meets 34 = .ok (.aload_n 0, 1) := by decide +kernel
theorem dX4_meets_35 : decode cX4_meets 35 = .ok (.getfield 19, 3) := by decide +kernel
theorem dX4_meets_38 : decode cX4_meets 38 = .ok (.getfield 90, 3) := by decide +kernel
theorem dX4_meets_41 : decode cX4_meets 41 = .ok (.iload_n 1, 1) := by decide +kernel
theorem dX4_meets_42 : decode cX4_meets 42 = .ok (.aaload, 1) := by decide +kernel
theorem dX4_meets_43 : decode cX4_meets 43 = .ok (.iload_n 2, 1) := by decide +kernel
theorem dX4_meets_44 : decode cX4_meets 44 = .ok (.invokevirtual 144, 3) := by decide +kernel
theorem dX4_meets_47 : decode cX4_meets 47 = .ok (.goto 16, 3) := by decide +kernel
theorem dX4_meets_50 : decode cX4_meets 50 = .ok (.aload_n 0, 1) := by decide +kernel
theorem dX4_meets_51 : decode cX4_meets 51 = .ok (.getfield 19, 3) := by decide +kernel
theorem dX4_meets_54 : decode cX4_meets 54 = .ok (.getfield 90, 3) := by decide +kernel
theorem dX4_meets_57 : decode cX4_meets 57 = .ok (.iload_n 1, 1) := by decide +kernel
theorem dX4_meets_58 : decode cX4_meets 58 = .ok (.aaload, 1) := by decide +kernel
theorem dX4_meets_59 : decode cX4_meets 59 = .ok (.iload_n 2, 1) := by decide +kernel
theorem dX4_meets_60 : decode cX4_meets 60 = .ok (.invokevirtual 147, 3) := by decide +kernel
theorem dX4_meets_63 : decode cX4_meets 63 = .ok (.ireturn, 1) := by decide +kernel
theorem dX4_draw_0 : decode cX4_draw 0 = .ok (.aload_n 0, 1) := by decide +kernel
theorem dX4_draw_1 : decode cX4_draw 1 = .ok (.iload_n 1, 1) := by decide +kernel
theorem dX4_draw_2 : decode cX4_draw 2 = .ok (.invokevirtual 101, 3) := by decide +kernel
theorem dX4_draw_5 : decode cX4_draw 5 = .ok (.ifCond .eq 14, 3) := by decide +kernel
theorem dX4_draw_8 : decode cX4_draw 8 = .ok (.iload_n 2, 1) := by decide +kernel
theorem dX4_draw_9 : decode cX4_draw 9 = .ok (.iconst 0, 1) := by decide +kernel
theorem dX4_draw_10 : decode cX4_draw 10 = .ok (.sipush 9999, 3) := by decide +kernel
theorem dX4_draw_13 : decode cX4_draw 13 = .ok (.invokestatic 77, 3) := by decide +kernel
theorem dX4_draw_16 : decode cX4_draw 16 = .ok (.ifCond .ne 5, 3) := by decide +kernel
theorem dX4_draw_19 : decode cX4_draw 19 = .ok (.iconst (-1), 1) := by decide +kernel
theorem dX4_draw_20 : decode cX4_draw 20 = .ok (.ireturn, 1) := by decide +kernel
theorem dX4_draw_21 : decode cX4_draw 21 = .ok (.aload_n 0, 1) := by decide +kernel
theorem dX4_draw_22 : decode cX4_draw 22 = .ok (.getfield 19, 3) := by decide +kernel
theorem dX4_draw_25 : decode cX4_draw 25 = .ok (.getfield 90, 3) := by decide +kernel
theorem dX4_draw_28 : decode cX4_draw 28 = .ok (.iload_n 1, 1) := by decide +kernel
theorem dX4_draw_29 : decode cX4_draw 29 = .ok (.aaload, 1) := by decide +kernel
theorem dX4_draw_30 : decode cX4_draw 30 = .ok (.iload_n 2, 1) := by decide +kernel
theorem dX4_draw_31 : decode cX4_draw 31 = .ok (.aload_n 0, 1) := by decide +kernel
theorem dX4_draw_32 : decode cX4_draw 32 = .ok (.getfield 19, 3) := by decide +kernel
theorem dX4_draw_35 : decode cX4_draw 35 = .ok (.getfield 94, 3) := by decide +kernel
theorem dX4_draw_38 : decode cX4_draw 38 = .ok (.invokevirtual 150, 3) := by decide +kernel
theorem dX4_draw_41 : decode cX4_draw 41 = .ok (.ireturn, 1) := by decide +kernel
theorem dX4_ahead_0 : decode cX4_ahead 0 = .ok (.iload_n 1, 1) := by decide +kernel
theorem dX4_ahead_1 : decode cX4_ahead 1 = .ok (.iconst 1, 1) := by decide +kernel
theorem dX4_ahead_2 : decode cX4_ahead 2 = .ok (.bipush 99, 2) := by decide +kernel
theorem dX4_ahead_4 : decode cX4_ahead 4 = .ok (.invokestatic 77, 3) := by decide +kernel
theorem dX4_ahead_7 : decode cX4_ahead 7 = .ok (.ifCond .eq 20, 3) := by decide +kernel
theorem dX4_ahead_10 : decode cX4_ahead 10 = .ok (.aload_n 0, 1) := by decide +kernel
theorem dX4_ahead_11 : decode cX4_ahead 11 = .ok (.iload_n 2, 1) := by decide +kernel
theorem dX4_ahead_12 : decode cX4_ahead 12 = .ok (.invokevirtual 101, 3) := by decide +kernel
theorem dX4_ahead_15 : decode cX4_ahead 15 = .ok (.ifCond .eq 12, 3) := by decide +kernel
theorem dX4_ahead_18 : decode cX4_ahead 18 = .ok (.iload_n 3, 1) := by decide +kernel
theorem dX4_ahead_19 : decode cX4_ahead 19 = .ok (.iconst 0, 1) := by decide +kernel
theorem dX4_ahead_20 : decode cX4_ahead 20 = .ok (.iconst 4, 1) := by decide +kernel
theorem dX4_ahead_21 : decode cX4_ahead 21 = .ok (.invokestatic 77, 3) := by decide +kernel
theorem dX4_ahead_24 : decode cX4_ahead 24 = .ok (.ifCond .ne 5, 3) := by decide +kernel
theorem dX4_ahead_27 : decode cX4_ahead 27 = .ok (.iconst (-1), 1) := by decide +kernel
theorem dX4_ahead_28 : decode cX4_ahead 28 = .ok (.ireturn, 1) := by decide +kernel
theorem dX4_ahead_29 : decode cX4_ahead 29 = .ok (.aload_n 0, 1) := by decide +kernel
theorem dX4_ahead_30 : decode cX4_ahead 30 = .ok (.iload_n 2, 1) := by decide +kernel
theorem dX4_ahead_31 : decode cX4_ahead 31 = .ok (.aload_n 0, 1) := by decide +kernel
theorem dX4_ahead_32 : decode cX4_ahead 32 = .ok (.getfield 19, 3) := by decide +kernel
theorem dX4_ahead_35 : decode cX4_ahead 35 = .ok (.getfield 94, 3) := by decide +kernel
theorem dX4_ahead_38 : decode cX4_ahead 38 = .ok (.getfield 127, 3) := by decide +kernel
theorem dX4_ahead_41 : decode cX4_ahead 41 = .ok (.invokevirtual 153, 3) := by decide +kernel
theorem dX4_ahead_44 : decode cX4_ahead 44 = .ok (.aload_n 0, 1) := by decide +kernel
theorem dX4_ahead_45 : decode cX4_ahead 45 = .ok (.getfield 33, 3) := by decide +kernel
theorem dX4_ahead_48 : decode cX4_ahead 48 = .ok (.iload_n 1, 1) := by decide +kernel
theorem dX4_ahead_49 : decode cX4_ahead 49 = .ok (.aload_n 0, 1) := by decide +kernel
theorem dX4_ahead_50 : decode cX4_ahead 50 = .ok (.getfield 40, 3) := by decide +kernel
theorem dX4_ahead_53 : decode cX4_ahead 53 = .ok (.invokevirtual 97, 3) := by decide +kernel
theorem dX4_ahead_56 : decode cX4_ahead 56 = .ok (.iload_n 3, 1) := by decide +kernel
theorem dX4_ahead_57 : decode cX4_ahead 57 = .ok (.tableswitch 76 0 3 #[31, 39, 47, 55], 31) := by decide +kernel
theorem dX4_ahead_88 : decode cX4_ahead 88 = .ok (.aload_n 0, 1) := by decide +kernel
theorem dX4_ahead_89 : decode cX4_ahead 89 = .ok (.getfield 33, 3) := by decide +kernel
theorem dX4_ahead_92 : decode cX4_ahead 92 = .ok (.getfield 157, 3) := by decide +kernel
theorem dX4_ahead_95 : decode cX4_ahead 95 = .ok (.ireturn, 1) := by decide +kernel
theorem dX4_ahead_96 : decode cX4_ahead 96 = .ok (.aload_n 0, 1) := by decide +kernel
theorem dX4_ahead_97 : decode cX4_ahead 97 = .ok (.getfield 33, 3) := by decide +kernel
theorem dX4_ahead_100 : decode cX4_ahead 100 = .ok (.getfield 160, 3) := by decide +kernel
theorem dX4_ahead_103 : decode cX4_ahead 103 = .ok (.ireturn, 1) := by decide +kernel
theorem dX4_ahead_104 : decode cX4_ahead 104 = .ok (.aload_n 0, 1) := by decide +kernel
theorem dX4_ahead_105 : decode cX4_ahead 105 = .ok (.getfield 33, 3) := by decide +kernel
theorem dX4_ahead_108 : decode cX4_ahead 108 = .ok (.getfield 163, 3) := by decide +kernel
theorem dX4_ahead_111 : decode cX4_ahead 111 = .ok (.ireturn, 1) := by decide +kernel
theorem dX4_ahead_112 : decode cX4_ahead 112 = .ok (.aload_n 0, 1) := by decide +kernel
theorem dX4_ahead_113 : decode cX4_ahead 113 = .ok (.getfield 33, 3) := by decide +kernel
theorem dX4_ahead_116 : decode cX4_ahead 116 = .ok (.getfield 166, 3) := by decide +kernel
theorem dX4_ahead_119 : decode cX4_ahead 119 = .ok (.aload_n 0, 1) := by decide +kernel
theorem dX4_ahead_120 : decode cX4_ahead 120 = .ok (.getfield 19, 3) := by decide +kernel
theorem dX4_ahead_123 : decode cX4_ahead 123 = .ok (.getfield 90, 3) := by decide +kernel
theorem dX4_ahead_126 : decode cX4_ahead 126 = .ok (.iload_n 2, 1) := by decide +kernel
theorem dX4_ahead_127 : decode cX4_ahead 127 = .ok (.aaload, 1) := by decide +kernel
theorem dX4_ahead_128 : decode cX4_ahead 128 = .ok (.getfield 166, 3) := by decide +kernel
theorem dX4_ahead_131 : decode cX4_ahead 131 = .ok (.isub, 1) := by decide +kernel
theorem dX4_ahead_132 : decode cX4_ahead 132 = .ok (.ireturn, 1) := by decide +kernel
theorem dX4_ahead_133 : decode cX4_ahead 133 = .ok (.aload_n 0, 1) := by decide +kernel
theorem dX4_ahead_134 : decode cX4_ahead 134 = .ok (.getfield 33, 3) := by decide +kernel
theorem dX4_ahead_137 : decode cX4_ahead 137 = .ok (.getfield 169, 3) := by decide +kernel
theorem dX4_ahead_140 : decode cX4_ahead 140 = .ok (.aload_n 0, 1) := by decide +kernel
theorem dX4_ahead_141 : decode cX4_ahead 141 = .ok (.getfield 19, 3) := by decide +kernel
theorem dX4_ahead_144 : decode cX4_ahead 144 = .ok (.getfield 90, 3) := by decide +kernel
theorem dX4_ahead_147 : decode cX4_ahead 147 = .ok (.iload_n 2, 1) := by decide +kernel
theorem dX4_ahead_148 : decode cX4_ahead 148 = .ok (.aaload, 1) := by decide +kernel
theorem dX4_ahead_149 : decode cX4_ahead 149 = .ok (.getfield 169, 3) := by decide +kernel
theorem dX4_ahead_152 : decode cX4_ahead 152 = .ok (.isub, 1) := by decide +kernel
theorem dX4_ahead_153 : decode cX4_ahead 153 = .ok (.ireturn, 1) := by decide +kernel
theorem dX4_soon_0 : decode cX4_soon 0 = .ok (.aload_n 0, 1) := by decide +kernel
theorem dX4_soon_1 : decode cX4_soon 1 = .ok (.iload_n 1, 1) := by decide +kernel
theorem dX4_soon_2 : decode cX4_soon 2 = .ok (.invokevirtual 101, 3) := by decide +kernel
theorem dX4_soon_5 : decode cX4_soon 5 = .ok (.ifCond .eq 12, 3) := by decide +kernel
theorem dX4_soon_8 : decode cX4_soon 8 = .ok (.iload_n 2, 1) := by decide +kernel
theorem dX4_soon_9 : decode cX4_soon 9 = .ok (.iconst 0, 1) := by decide +kernel
theorem dX4_soon_10 : decode cX4_soon 10 = .ok (.iconst 2, 1) := by decide +kernel
theorem dX4_soon_11 : decode cX4_soon 11 = .ok (.invokestatic 77, 3) := by decide +kernel
theorem dX4_soon_14 : decode cX4_soon 14 = .ok (.ifCond .ne 5, 3) := by decide +kernel
theorem dX4_soon_17 : decode cX4_soon 17 = .ok (.iconst (-1), 1) := by decide +kernel
theorem dX4_soon_18 : decode cX4_soon 18 = .ok (.ireturn, 1) := by decide +kernel
theorem dX4_soon_19 : decode cX4_soon 19 = .ok (.aload_n 0, 1) := by decide +kernel
theorem dX4_soon_20 : decode cX4_soon 20 = .ok (.iload_n 1, 1) := by decide +kernel
theorem dX4_soon_21 : decode cX4_soon 21 = .ok (.iload_n 2, 1) := by decide +kernel
theorem dX4_soon_22 : decode cX4_soon 22 = .ok (.invokevirtual 172, 3) := by decide +kernel
theorem dX4_soon_25 : decode cX4_soon 25 = .ok (.ireturn, 1) := by decide +kernel
theorem dX4_best_0 : decode cX4_best 0 = .ok (.aload_n 0, 1) := by decide +kernel
theorem dX4_best_1 : decode cX4_best 1 = .ok (.iload_n 1, 1) := by decide +kernel
theorem dX4_best_2 : decode cX4_best 2 = .ok (.invokevirtual 101, 3) := by decide +kernel
theorem dX4_best_5 : decode cX4_best 5 = .ok (.ifCond .ne 5, 3) := by decide +kernel
theorem dX4_best_8 : decode cX4_best 8 = .ok (.iconst (-1), 1) := by decide +kernel
theorem dX4_best_9 : decode cX4_best 9 = .ok (.ireturn, 1) := by decide +kernel
theorem dX4_best_10 : decode cX4_best 10 = .ok (.bipush (-4), 2) := by decide +kernel
theorem dX4_best_12 : decode cX4_best 12 = .ok (.istore_n 2, 1) := by decide +kernel
theorem dX4_best_13 : decode cX4_best 13 = .ok (.bipush 100, 2) := by decide +kernel
theorem dX4_best_15 : decode cX4_best 15 = .ok (.istore_n 3, 1) := by decide +kernel
theorem dX4_best_16 : decode cX4_best 16 = .ok (.iconst 0, 1) := by decide +kernel
theorem dX4_best_17 : decode cX4_best 17 = .ok (.istore 4, 2) := by decide +kernel
theorem dX4_best_19 : decode cX4_best 19 = .ok (.iload 4, 2) := by decide +kernel
theorem dX4_best_21 : decode cX4_best 21 = .ok (.iconst 2, 1) := by decide +kernel
theorem dX4_best_22 : decode cX4_best 22 = .ok (.if_icmp .gt 37, 3) := by decide +kernel
theorem dX4_best_25 : decode cX4_best 25 = .ok (.aload_n 0, 1) := by decide +kernel
theorem dX4_best_26 : decode cX4_best 26 = .ok (.iload_n 1, 1) := by decide +kernel
theorem dX4_best_27 : decode cX4_best 27 = .ok (.iload 4, 2) := by decide +kernel
theorem dX4_best_29 : decode cX4_best 29 = .ok (.invokevirtual 172, 3) := by decide +kernel
theorem dX4_best_32 : decode cX4_best 32 = .ok (.istore 5, 2) := by decide +kernel
theorem dX4_best_34 : decode cX4_best 34 = .ok (.iload 5, 2) := by decide +kernel
theorem dX4_best_36 : decode cX4_best 36 = .ok (.bipush (-4), 2) := by decide +kernel
theorem dX4_best_38 : decode cX4_best 38 = .ok (.if_icmp .eq 15, 3) := by decide +kernel
theorem dX4_best_41 : decode cX4_best 41 = .ok (.iload 5, 2) := by decide +kernel
theorem dX4_best_43 : decode cX4_best 43 = .ok (.iload_n 3, 1) := by decide +kernel
theorem dX4_best_44 : decode cX4_best 44 = .ok (.if_icmp .ge 9, 3) := by decide +kernel
theorem dX4_best_47 : decode cX4_best 47 = .ok (.iload 5, 2) := by decide +kernel
theorem dX4_best_49 : decode cX4_best 49 = .ok (.istore_n 3, 1) := by decide +kernel
theorem dX4_best_50 : decode cX4_best 50 = .ok (.iload 4, 2) := by decide +kernel
theorem dX4_best_52 : decode cX4_best 52 = .ok (.istore_n 2, 1) := by decide +kernel
theorem dX4_best_53 : decode cX4_best 53 = .ok (.iinc 4 1, 3) := by decide +kernel
theorem dX4_best_56 : decode cX4_best 56 = .ok (.goto (-37), 3) := by decide +kernel
theorem dX4_best_59 : decode cX4_best 59 = .ok (.iload_n 2, 1) := by decide +kernel
theorem dX4_best_60 : decode cX4_best 60 = .ok (.ireturn, 1) := by decide +kernel
theorem dX4_count_0 : decode cX4_count 0 = .ok (.iload_n 1, 1) := by decide +kernel
theorem dX4_count_1 : decode cX4_count 1 = .ok (.tableswitch 168 0 11 #[63, 71, 79, 90, 101, 112, 123, 131, 139, 147, 155, 160], 63) := by decide +kernel
theorem dX4_count_64 : decode cX4_count 64 = .ok (.aload_n 0, 1) := by decide +kernel
theorem dX4_count_65 : decode cX4_count 65 = .ok (.getfield 19, 3) := by decide +kernel
theorem dX4_count_68 : decode cX4_count 68 = .ok (.getfield 71, 3) := by decide +kernel
theorem dX4_count_71 : decode cX4_count 71 = .ok (.ireturn, 1) := by decide +kernel
theorem dX4_count_72 : decode cX4_count 72 = .ok (.aload_n 0, 1) := by decide +kernel
theorem dX4_count_73 : decode cX4_count 73 = .ok (.getfield 19, 3) := by decide +kernel
theorem dX4_count_76 : decode cX4_count 76 = .ok (.getfield 81, 3) := by decide +kernel
theorem dX4_count_79 : decode cX4_count 79 = .ok (.ireturn, 1) := by decide +kernel
theorem dX4_count_80 : decode cX4_count 80 = .ok (.aload_n 0, 1) := by decide +kernel
theorem dX4_count_81 : decode cX4_count 81 = .ok (.getfield 19, 3) := by decide +kernel
theorem dX4_count_84 : decode cX4_count 84 = .ok (.getfield 94, 3) := by decide +kernel
theorem dX4_count_87 : decode cX4_count 87 = .ok (.getfield 176, 3) := by decide +kernel
theorem dX4_count_90 : decode cX4_count 90 = .ok (.ireturn, 1) := by decide +kernel
theorem dX4_count_91 : decode cX4_count 91 = .ok (.aload_n 0, 1) := by decide +kernel
theorem dX4_count_92 : decode cX4_count 92 = .ok (.getfield 19, 3) := by decide +kernel
theorem dX4_count_95 : decode cX4_count 95 = .ok (.getfield 94, 3) := by decide +kernel
theorem dX4_count_98 : decode cX4_count 98 = .ok (.getfield 179, 3) := by decide +kernel
theorem dX4_count_101 : decode cX4_count 101 = .ok (.ireturn, 1) := by decide +kernel
theorem dX4_count_102 : decode cX4_count 102 = .ok (.aload_n 0, 1) := by decide +kernel
theorem dX4_count_103 : decode cX4_count 103 = .ok (.getfield 19, 3) := by decide +kernel
theorem dX4_count_106 : decode cX4_count 106 = .ok (.getfield 94, 3) := by decide +kernel
theorem dX4_count_109 : decode cX4_count 109 = .ok (.getfield 182, 3) := by decide +kernel
theorem dX4_count_112 : decode cX4_count 112 = .ok (.ireturn, 1) := by decide +kernel
theorem dX4_count_113 : decode cX4_count 113 = .ok (.aload_n 0, 1) := by decide +kernel
theorem dX4_count_114 : decode cX4_count 114 = .ok (.getfield 19, 3) := by decide +kernel
theorem dX4_count_117 : decode cX4_count 117 = .ok (.getfield 94, 3) := by decide +kernel
theorem dX4_count_120 : decode cX4_count 120 = .ok (.getfield 127, 3) := by decide +kernel
theorem dX4_count_123 : decode cX4_count 123 = .ok (.ireturn, 1) := by decide +kernel
theorem dX4_count_124 : decode cX4_count 124 = .ok (.aload_n 0, 1) := by decide +kernel
theorem dX4_count_125 : decode cX4_count 125 = .ok (.getfield 19, 3) := by decide +kernel
theorem dX4_count_128 : decode cX4_count 128 = .ok (.invokevirtual 185, 3) := by decide +kernel
theorem dX4_count_131 : decode cX4_count 131 = .ok (.ireturn, 1) := by decide +kernel
theorem dX4_count_132 : decode cX4_count 132 = .ok (.aload_n 0, 1) := by decide +kernel
theorem dX4_count_133 : decode cX4_count 133 = .ok (.getfield 19, 3) := by decide +kernel
theorem dX4_count_136 : decode cX4_count 136 = .ok (.invokevirtual 188, 3) := by decide +kernel
theorem dX4_count_139 : decode cX4_count 139 = .ok (.ireturn, 1) := by decide +kernel
theorem dX4_count_140 : decode cX4_count 140 = .ok (.aload_n 0, 1) := by decide +kernel
theorem dX4_count_141 : decode cX4_count 141 = .ok (.getfield 19, 3) := by decide +kernel
theorem dX4_count_144 : decode cX4_count 144 = .ok (.invokevirtual 191, 3) := by decide +kernel
theorem dX4_count_147 : decode cX4_count 147 = .ok (.ireturn, 1) := by decide +kernel
theorem dX4_count_148 : decode cX4_count 148 = .ok (.aload_n 0, 1) := by decide +kernel
theorem dX4_count_149 : decode cX4_count 149 = .ok (.getfield 19, 3) := by decide +kernel
theorem dX4_count_152 : decode cX4_count 152 = .ok (.invokevirtual 87, 3) := by decide +kernel
theorem dX4_count_155 : decode cX4_count 155 = .ok (.ireturn, 1) := by decide +kernel
theorem dX4_count_156 : decode cX4_count 156 = .ok (.aload_n 0, 1) := by decide +kernel
theorem dX4_count_157 : decode cX4_count 157 = .ok (.getfield 74, 3) := by decide +kernel
theorem dX4_count_160 : decode cX4_count 160 = .ok (.ireturn, 1) := by decide +kernel
theorem dX4_count_161 : decode cX4_count 161 = .ok (.aload_n 0, 1) := by decide +kernel
theorem dX4_count_162 : decode cX4_count 162 = .ok (.getfield 10, 3) := by decide +kernel
theorem dX4_count_165 : decode cX4_count 165 = .ok (.getfield 68, 3) := by decide +kernel
theorem dX4_count_168 : decode cX4_count 168 = .ok (.ireturn, 1) := by decide +kernel
theorem dX4_count_169 : decode cX4_count 169 = .ok (.iconst (-1), 1) := by decide +kernel
theorem dX4_count_170 : decode cX4_count 170 = .ok (.ireturn, 1) := by decide +kernel
theorem dX4_isBetween_0 : decode cX4_isBetween 0 = .ok (.iload_n 0, 1) := by decide +kernel
theorem dX4_isBetween_1 : decode cX4_isBetween 1 = .ok (.iload_n 1, 1) := by decide +kernel
theorem dX4_isBetween_2 : decode cX4_isBetween 2 = .ok (.if_icmp .lt 12, 3) := by decide +kernel
theorem dX4_isBetween_5 : decode cX4_isBetween 5 = .ok (.iload_n 0, 1) := by decide +kernel
theorem dX4_isBetween_6 : decode cX4_isBetween 6 = .ok (.iload_n 2, 1) := by decide +kernel
theorem dX4_isBetween_7 : decode cX4_isBetween 7 = .ok (.if_icmp .gt 7, 3) := by decide +kernel
theorem dX4_isBetween_10 : decode cX4_isBetween 10 = .ok (.iconst 1, 1) := by decide +kernel
theorem dX4_isBetween_11 : decode cX4_isBetween 11 = .ok (.goto 4, 3) := by decide +kernel
theorem dX4_isBetween_14 : decode cX4_isBetween 14 = .ok (.iconst 0, 1) := by decide +kernel
theorem dX4_isBetween_15 : decode cX4_isBetween 15 = .ok (.ireturn, 1) := by decide +kernel
theorem dX4_isWay_0 : decode cX4_isWay 0 = .ok (.iload_n 1, 1) := by decide +kernel
theorem dX4_isWay_1 : decode cX4_isWay 1 = .ok (.ifCond .lt 18, 3) := by decide +kernel
theorem dX4_isWay_4 : decode cX4_isWay 4 = .ok (.iload_n 1, 1) := by decide +kernel
theorem dX4_isWay_5 : decode cX4_isWay 5 = .ok (.aload_n 0, 1) := by decide +kernel
theorem dX4_isWay_6 : decode cX4_isWay 6 = .ok (.getfield 19, 3) := by decide +kernel
theorem dX4_isWay_9 : decode cX4_isWay 9 = .ok (.getfield 71, 3) := by decide +kernel
theorem dX4_isWay_12 : decode cX4_isWay 12 = .ok (.if_icmp .ge 7, 3) := by decide +kernel
theorem dX4_isWay_15 : decode cX4_isWay 15 = .ok (.iconst 1, 1) := by decide +kernel
theorem dX4_isWay_16 : decode cX4_isWay 16 = .ok (.goto 4, 3) := by decide +kernel
theorem dX4_isWay_19 : decode cX4_isWay 19 = .ok (.iconst 0, 1) := by decide +kernel
theorem dX4_isWay_20 : decode cX4_isWay 20 = .ok (.ireturn, 1) := by decide +kernel
theorem dX4_isHop_0 : decode cX4_isHop 0 = .ok (.aload_n 0, 1) := by decide +kernel
theorem dX4_isHop_1 : decode cX4_isHop 1 = .ok (.iload_n 1, 1) := by decide +kernel
theorem dX4_isHop_2 : decode cX4_isHop 2 = .ok (.invokevirtual 101, 3) := by decide +kernel
theorem dX4_isHop_5 : decode cX4_isHop 5 = .ok (.ifCond .eq 27, 3) := by decide +kernel
theorem dX4_isHop_8 : decode cX4_isHop 8 = .ok (.iload_n 2, 1) := by decide +kernel
theorem dX4_isHop_9 : decode cX4_isHop 9 = .ok (.ifCond .lt 23, 3) := by decide +kernel
theorem dX4_isHop_12 : decode cX4_isHop 12 = .ok (.iload_n 2, 1) := by decide +kernel
theorem dX4_isHop_13 : decode cX4_isHop 13 = .ok (.aload_n 0, 1) := by decide +kernel
theorem dX4_isHop_14 : decode cX4_isHop 14 = .ok (.getfield 19, 3) := by decide +kernel
theorem dX4_isHop_17 : decode cX4_isHop 17 = .ok (.getfield 90, 3) := by decide +kernel
theorem dX4_isHop_20 : decode cX4_isHop 20 = .ok (.iload_n 1, 1) := by decide +kernel
theorem dX4_isHop_21 : decode cX4_isHop 21 = .ok (.aaload, 1) := by decide +kernel
theorem dX4_isHop_22 : decode cX4_isHop 22 = .ok (.getfield 194, 3) := by decide +kernel
theorem dX4_isHop_25 : decode cX4_isHop 25 = .ok (.if_icmp .ge 7, 3) := by decide +kernel
theorem dX4_isHop_28 : decode cX4_isHop 28 = .ok (.iconst 1, 1) := by decide +kernel
theorem dX4_isHop_29 : decode cX4_isHop 29 = .ok (.goto 4, 3) := by decide +kernel
theorem dX4_isHop_32 : decode cX4_isHop 32 = .ok (.iconst 0, 1) := by decide +kernel
theorem dX4_isHop_33 : decode cX4_isHop 33 = .ok (.ireturn, 1) := by decide +kernel
theorem dX4_remember_0 : decode cX4_remember 0 = .ok (.aload_n 0, 1) := by decide +kernel
theorem dX4_remember_1 : decode cX4_remember 1 = .ok (.getfield 26, 3) := by decide +kernel
theorem dX4_remember_4 : decode cX4_remember 4 = .ok (.aload_n 0, 1) := by decide +kernel
theorem dX4_remember_5 : decode cX4_remember 5 = .ok (.getfield 130, 3) := by decide +kernel
theorem dX4_remember_8 : decode cX4_remember 8 = .ok (.aaload, 1) := by decide +kernel
theorem dX4_remember_9 : decode cX4_remember 9 = .ok (.aload_n 0, 1) := by decide +kernel
theorem dX4_remember_10 : decode cX4_remember 10 = .ok (.getfield 19, 3) := by decide +kernel
theorem dX4_remember_13 : decode cX4_remember 13 = .ok (.invokevirtual 64, 3) := by decide +kernel
theorem dX4_remember_16 : decode cX4_remember 16 = .ok (.aload_n 0, 1) := by decide +kernel
theorem dX4_remember_17 : decode cX4_remember 17 = .ok (.aload_n 0, 1) := by decide +kernel
theorem dX4_remember_18 : decode cX4_remember 18 = .ok (.getfield 130, 3) := by decide +kernel
theorem dX4_remember_21 : decode cX4_remember 21 = .ok (.iconst 3, 1) := by decide +kernel
theorem dX4_remember_22 : decode cX4_remember 22 = .ok (.if_icmp .ne 7, 3) := by decide +kernel
theorem dX4_remember_25 : decode cX4_remember 25 = .ok (.iconst 0, 1) := by decide +kernel
theorem dX4_remember_26 : decode cX4_remember 26 = .ok (.goto 9, 3) := by decide +kernel
theorem dX4_remember_29 : decode cX4_remember 29 = .ok (.aload_n 0, 1) := by decide +kernel
theorem dX4_remember_30 : decode cX4_remember 30 = .ok (.getfield 130, 3) := by decide +kernel
theorem dX4_remember_33 : decode cX4_remember 33 = .ok (.iconst 1, 1) := by decide +kernel
theorem dX4_remember_34 : decode cX4_remember 34 = .ok (.iadd, 1) := by decide +kernel
theorem dX4_remember_35 : decode cX4_remember 35 = .ok (.putfield 130, 3) := by decide +kernel
theorem dX4_remember_38 : decode cX4_remember 38 = .ok (.aload_n 0, 1) := by decide +kernel
theorem dX4_remember_39 : decode cX4_remember 39 = .ok (.getfield 74, 3) := by decide +kernel
theorem dX4_remember_42 : decode cX4_remember 42 = .ok (.iconst 4, 1) := by decide +kernel
theorem dX4_remember_43 : decode cX4_remember 43 = .ok (.if_icmp .ge 13, 3) := by decide +kernel
theorem dX4_remember_46 : decode cX4_remember 46 = .ok (.aload_n 0, 1) := by decide +kernel
theorem dX4_remember_47 : decode cX4_remember 47 = .ok (.dup, 1) := by decide +kernel
theorem dX4_remember_48 : decode cX4_remember 48 = .ok (.getfield 74, 3) := by decide +kernel
theorem dX4_remember_51 : decode cX4_remember 51 = .ok (.iconst 1, 1) := by decide +kernel
theorem dX4_remember_52 : decode cX4_remember 52 = .ok (.iadd, 1) := by decide +kernel
theorem dX4_remember_53 : decode cX4_remember 53 = .ok (.putfield 74, 3) := by decide +kernel
theorem dX4_remember_56 : decode cX4_remember 56 = .ok (.return_, 1) := by decide +kernel
theorem dX4_startTrial_0 : decode cX4_startTrial 0 = .ok (.aload_n 0, 1) := by decide +kernel
theorem dX4_startTrial_1 : decode cX4_startTrial 1 = .ok (.getfield 33, 3) := by decide +kernel
theorem dX4_startTrial_4 : decode cX4_startTrial 4 = .ok (.aload_n 0, 1) := by decide +kernel
theorem dX4_startTrial_5 : decode cX4_startTrial 5 = .ok (.getfield 19, 3) := by decide +kernel
theorem dX4_startTrial_8 : decode cX4_startTrial 8 = .ok (.getfield 90, 3) := by decide +kernel
theorem dX4_startTrial_11 : decode cX4_startTrial 11 = .ok (.iload_n 1, 1) := by decide +kernel
theorem dX4_startTrial_12 : decode cX4_startTrial 12 = .ok (.aaload, 1) := by decide +kernel
theorem dX4_startTrial_13 : decode cX4_startTrial 13 = .ok (.invokevirtual 197, 3) := by decide +kernel
theorem dX4_startTrial_16 : decode cX4_startTrial 16 = .ok (.aload_n 0, 1) := by decide +kernel
theorem dX4_startTrial_17 : decode cX4_startTrial 17 = .ok (.getfield 40, 3) := by decide +kernel
theorem dX4_startTrial_20 : decode cX4_startTrial 20 = .ok (.aload_n 0, 1) := by decide +kernel
theorem dX4_startTrial_21 : decode cX4_startTrial 21 = .ok (.getfield 19, 3) := by decide +kernel
theorem dX4_startTrial_24 : decode cX4_startTrial 24 = .ok (.getfield 94, 3) := by decide +kernel
theorem dX4_startTrial_27 : decode cX4_startTrial 27 = .ok (.invokevirtual 200, 3) := by decide +kernel
theorem dX4_startTrial_30 : decode cX4_startTrial 30 = .ok (.aload_n 0, 1) := by decide +kernel
theorem dX4_startTrial_31 : decode cX4_startTrial 31 = .ok (.getfield 40, 3) := by decide +kernel
theorem dX4_startTrial_34 : decode cX4_startTrial 34 = .ok (.iload_n 2, 1) := by decide +kernel
theorem dX4_startTrial_35 : decode cX4_startTrial 35 = .ok (.putfield 127, 3) := by decide +kernel
theorem dX4_startTrial_38 : decode cX4_startTrial 38 = .ok (.return_, 1) := by decide +kernel
theorem dX4_ticksUntilFound_0 : decode cX4_ticksUntilFound 0 = .ok (.aload_n 0, 1) := by decide +kernel
theorem dX4_ticksUntilFound_1 : decode cX4_ticksUntilFound 1 = .ok (.iload_n 1, 1) := by decide +kernel
theorem dX4_ticksUntilFound_2 : decode cX4_ticksUntilFound 2 = .ok (.iload_n 2, 1) := by decide +kernel
theorem dX4_ticksUntilFound_3 : decode cX4_ticksUntilFound 3 = .ok (.invokevirtual 153, 3) := by decide +kernel
theorem dX4_ticksUntilFound_6 : decode cX4_ticksUntilFound 6 = .ok (.aload_n 0, 1) := by decide +kernel
theorem dX4_ticksUntilFound_7 : decode cX4_ticksUntilFound 7 = .ok (.getfield 33, 3) := by decide +kernel
theorem dX4_ticksUntilFound_10 : decode cX4_ticksUntilFound 10 = .ok (.aload_n 0, 1) := by decide +kernel
theorem dX4_ticksUntilFound_11 : decode cX4_ticksUntilFound 11 = .ok (.getfield 40, 3) := by decide +kernel
theorem dX4_ticksUntilFound_14 : decode cX4_ticksUntilFound 14 = .ok (.invokevirtual 203, 3) := by decide +kernel
theorem dX4_ticksUntilFound_17 : decode cX4_ticksUntilFound 17 = .ok (.istore_n 3, 1) := by decide +kernel
theorem dX4_ticksUntilFound_18 : decode cX4_ticksUntilFound 18 = .ok (.iconst 1, 1) := by decide +kernel
theorem dX4_ticksUntilFound_19 : decode cX4_ticksUntilFound 19 = .ok (.istore 4, 2) := by decide +kernel
theorem dX4_ticksUntilFound_21 : decode cX4_ticksUntilFound 21 = .ok (.iload 4, 2) := by decide +kernel
theorem dX4_ticksUntilFound_23 : decode cX4_ticksUntilFound 23 = .ok (.bipush 99, 2) := by decide +kernel
theorem dX4_ticksUntilFound_25 : decode cX4_ticksUntilFound 25 = .ok (.if_icmp .gt 35, 3) := by decide +kernel
theorem dX4_ticksUntilFound_28 : decode cX4_ticksUntilFound 28 = .ok (.aload_n 0, 1) := by decide +kernel
theorem dX4_ticksUntilFound_29 : decode cX4_ticksUntilFound 29 = .ok (.getfield 33, 3) := by decide +kernel
theorem dX4_ticksUntilFound_32 : decode cX4_ticksUntilFound 32 = .ok (.iconst 1, 1) := by decide +kernel
theorem dX4_ticksUntilFound_33 : decode cX4_ticksUntilFound 33 = .ok (.aload_n 0, 1) := by decide +kernel
theorem dX4_ticksUntilFound_34 : decode cX4_ticksUntilFound 34 = .ok (.getfield 40, 3) := by decide +kernel
theorem dX4_ticksUntilFound_37 : decode cX4_ticksUntilFound 37 = .ok (.invokevirtual 97, 3) := by decide +kernel
theorem dX4_ticksUntilFound_40 : decode cX4_ticksUntilFound 40 = .ok (.aload_n 0, 1) := by decide +kernel
theorem dX4_ticksUntilFound_41 : decode cX4_ticksUntilFound 41 = .ok (.getfield 33, 3) := by decide +kernel
theorem dX4_ticksUntilFound_44 : decode cX4_ticksUntilFound 44 = .ok (.getfield 157, 3) := by decide +kernel
theorem dX4_ticksUntilFound_47 : decode cX4_ticksUntilFound 47 = .ok (.iload_n 3, 1) := by decide +kernel
theorem dX4_ticksUntilFound_48 : decode cX4_ticksUntilFound 48 = .ok (.if_icmp .ne 6, 3) := by decide +kernel
theorem dX4_ticksUntilFound_51 : decode cX4_ticksUntilFound 51 = .ok (.iload 4, 2) := by decide +kernel
theorem dX4_ticksUntilFound_53 : decode cX4_ticksUntilFound 53 = .ok (.ireturn, 1) := by decide +kernel
theorem dX4_ticksUntilFound_54 : decode cX4_ticksUntilFound 54 = .ok (.iinc 4 1, 3) := by decide +kernel
theorem dX4_ticksUntilFound_57 : decode cX4_ticksUntilFound 57 = .ok (.goto (-36), 3) := by decide +kernel
theorem dX4_ticksUntilFound_60 : decode cX4_ticksUntilFound 60 = .ok (.bipush (-4), 2) := by decide +kernel
theorem dX4_ticksUntilFound_62 : decode cX4_ticksUntilFound 62 = .ok (.ireturn, 1) := by decide +kernel
theorem dX5_init_0 : decode cX5_init 0 = .ok (.aload_n 0, 1) := by decide +kernel
theorem dX5_init_1 : decode cX5_init 1 = .ok (.invokespecial 1, 3) := by decide +kernel
theorem dX5_init_4 : decode cX5_init 4 = .ok (.aload_n 0, 1) := by decide +kernel
theorem dX5_init_5 : decode cX5_init 5 = .ok (.bipush 103, 2) := by decide +kernel
theorem dX5_init_7 : decode cX5_init 7 = .ok (.newarray .int, 2) := by decide +kernel
theorem dX5_init_9 : decode cX5_init 9 = .ok (.putfield 7, 3) := by decide +kernel
theorem dX5_init_12 : decode cX5_init 12 = .ok (.aload_n 0, 1) := by decide +kernel
theorem dX5_init_13 : decode cX5_init 13 = .ok (.bipush 103, 2) := by decide +kernel
theorem dX5_init_15 : decode cX5_init 15 = .ok (.newarray .int, 2) := by decide +kernel
theorem dX5_init_17 : decode cX5_init 17 = .ok (.putfield 13, 3) := by decide +kernel
theorem dX5_init_20 : decode cX5_init 20 = .ok (.aload_n 0, 1) := by decide +kernel
theorem dX5_init_21 : decode cX5_init 21 = .ok (.bipush 103, 2) := by decide +kernel
theorem dX5_init_23 : decode cX5_init 23 = .ok (.newarray .int, 2) := by decide +kernel
theorem dX5_init_25 : decode cX5_init 25 = .ok (.putfield 16, 3) := by decide +kernel
theorem dX5_init_28 : decode cX5_init 28 = .ok (.aload_n 0, 1) := by decide +kernel
theorem dX5_init_29 : decode cX5_init 29 = .ok (.sipush 412, 3) := by decide +kernel
theorem dX5_init_32 : decode cX5_init 32 = .ok (.newarray .int, 2) := by decide +kernel
theorem dX5_init_34 : decode cX5_init 34 = .ok (.putfield 19, 3) := by decide +kernel
theorem dX5_init_37 : decode cX5_init 37 = .ok (.aload_n 0, 1) := by decide +kernel
theorem dX5_init_38 : decode cX5_init 38 = .ok (.sipush 240, 3) := by decide +kernel
theorem dX5_init_41 : decode cX5_init 41 = .ok (.newarray .int, 2) := by decide +kernel
theorem dX5_init_43 : decode cX5_init 43 = .ok (.putfield 22, 3) := by decide +kernel
theorem dX5_init_46 : decode cX5_init 46 = .ok (.aload_n 0, 1) := by decide +kernel
theorem dX5_init_47 : decode cX5_init 47 = .ok (.invokevirtual 25, 3) := by decide +kernel
theorem dX5_init_50 : decode cX5_init 50 = .ok (.aload_n 0, 1) := by decide +kernel
theorem dX5_init_51 : decode cX5_init 51 = .ok (.invokevirtual 28, 3) := by decide +kernel
theorem dX5_init_54 : decode cX5_init 54 = .ok (.pop, 1) := by decide +kernel
theorem dX5_init_55 : decode cX5_init 55 = .ok (.aload_n 0, 1) := by decide +kernel
theorem dX5_init_56 : decode cX5_init 56 = .ok (.sipush 700, 3) := by decide +kernel
theorem dX5_init_59 : decode cX5_init 59 = .ok (.iconst 0, 1) := by decide +kernel
theorem dX5_init_60 : decode cX5_init 60 = .ok (.invokevirtual 32, 3) := by decide +kernel
theorem dX5_init_63 : decode cX5_init 63 = .ok (.pop, 1) := by decide +kernel
theorem dX5_init_64 : decode cX5_init 64 = .ok (.aload_n 0, 1) := by decide +kernel
theorem dX5_init_65 : decode cX5_init 65 = .ok (.sipush 333, 3) := by decide +kernel
theorem dX5_init_68 : decode cX5_init 68 = .ok (.iconst 3, 1) := by decide +kernel
theorem dX5_init_69 : decode cX5_init 69 = .ok (.invokevirtual 32, 3) := by decide +kernel
theorem dX5_init_72 : decode cX5_init 72 = .ok (.pop, 1) := by decide +kernel
theorem dX5_init_73 : decode cX5_init 73 = .ok (.aload_n 0, 1) := by decide +kernel
theorem dX5_init_74 : decode cX5_init 74 = .ok (.invokevirtual 28, 3) := by decide +kernel
theorem dX5_init_77 : decode cX5_init 77 = .ok (.pop, 1) := by decide +kernel
theorem dX5_init_78 : decode cX5_init 78 = .ok (.aload_n 0, 1) := by decide +kernel
theorem dX5_init_79 : decode cX5_init 79 = .ok (.sipush 500, 3) := by decide +kernel
theorem dX5_init_82 : decode cX5_init 82 = .ok (.iconst 1, 1) := by decide +kernel
theorem dX5_init_83 : decode cX5_init 83 = .ok (.invokevirtual 32, 3) := by decide +kernel
theorem dX5_init_86 : decode cX5_init 86 = .ok (.pop, 1) := by decide +kernel
theorem dX5_init_87 : decode cX5_init 87 = .ok (.aload_n 0, 1) := by decide +kernel
theorem dX5_init_88 : decode cX5_init 88 = .ok (.sipush 900, 3) := by decide +kernel
theorem dX5_init_91 : decode cX5_init 91 = .ok (.iconst 0, 1) := by decide +kernel
theorem dX5_init_92 : decode cX5_init 92 = .ok (.invokevirtual 32, 3) := by decide +kernel
theorem dX5_init_95 : decode cX5_init 95 = .ok (.pop, 1) := by decide +kernel
theorem dX5_init_96 : decode cX5_init 96 = .ok (.aload_n 0, 1) := by decide +kernel
theorem dX5_init_97 : decode cX5_init 97 = .ok (.getfield 13, 3) := by decide +kernel
theorem dX5_init_100 : decode cX5_init 100 = .ok (.iconst 1, 1) := by decide +kernel
theorem dX5_init_101 : decode cX5_init 101 = .ok (.bipush 10, 2) := by decide +kernel
theorem dX5_init_103 : decode cX5_init 103 = .ok (.invokestatic 36, 3) := by decide +kernel
theorem dX5_init_106 : decode cX5_init 106 = .ok (.bipush 10, 2) := by decide +kernel
theorem dX5_init_108 : decode cX5_init 108 = .ok (.iastore, 1) := by decide +kernel
theorem dX5_init_109 : decode cX5_init 109 = .ok (.aload_n 0, 1) := by decide +kernel
theorem dX5_init_110 : decode cX5_init 110 = .ok (.invokevirtual 28, 3) := by decide +kernel
theorem dX5_init_113 : decode cX5_init 113 = .ok (.pop, 1) := by decide +kernel
theorem dX5_init_114 : decode cX5_init 114 = .ok (.aload_n 0, 1) := by decide +kernel
theorem dX5_init_115 : decode cX5_init 115 = .ok (.sipush 640, 3) := by decide +kernel
theorem dX5_init_118 : decode cX5_init 118 = .ok (.iconst 2, 1) := by decide +kernel
theorem dX5_init_119 : decode cX5_init 119 = .ok (.invokevirtual 32, 3) := by decide +kernel
theorem dX5_init_122 : decode cX5_init 122 = .ok (.pop, 1) := by decide +kernel
theorem dX5_init_123 : decode cX5_init 123 = .ok (.aload_n 0, 1) := by decide +kernel
theorem dX5_init_124 : decode cX5_init 124 = .ok (.invokevirtual 40, 3) := by decide +kernel
theorem dX5_init_127 : decode cX5_init 127 = .ok (.return_, 1) := by decide +kernel
theorem dX5_in_0 : decode cX5_in 0 = .ok (.iload_n 0, 1) := by decide +kernel
theorem dX5_in_1 : decode cX5_in 1 = .ok (.iload_n 1, 1) := by decide +kernel
theorem dX5_in_2 : decode cX5_in 2 = .ok (.if_icmp .lt 12, 3) := by decide +kernel
theorem dX5_in_5 : decode cX5_in 5 = .ok (.iload_n 0, 1) := by decide +kernel
theorem dX5_in_6 : decode cX5_in 6 = .ok (.iload_n 2, 1) := by decide +kernel
theorem dX5_in_7 : decode cX5_in 7 = .ok (.if_icmp .gt 7, 3) := by decide +kernel
theorem dX5_in_10 : decode cX5_in 10 = .ok (.iconst 1, 1) := by decide +kernel
theorem dX5_in_11 : decode cX5_in 11 = .ok (.goto 4, 3) := by decide +kernel
theorem dX5_in_14 : decode cX5_in 14 = .ok (.iconst 0, 1) := by decide +kernel
theorem dX5_in_15 : decode cX5_in 15 = .ok (.ireturn, 1) := by decide +kernel
theorem dX5_lesser_0 : decode cX5_lesser 0 = .ok (.iload_n 0, 1) := by decide +kernel
theorem dX5_lesser_1 : decode cX5_lesser 1 = .ok (.iload_n 1, 1) := by decide +kernel
theorem dX5_lesser_2 : decode cX5_lesser 2 = .ok (.if_icmp .ge 7, 3) := by decide +kernel
theorem dX5_lesser_5 : decode cX5_lesser 5 = .ok (.iload_n 0, 1) := by decide +kernel
theorem dX5_lesser_6 : decode cX5_lesser 6 = .ok (.goto 4, 3) := by decide +kernel
theorem dX5_lesser_9 : decode cX5_lesser 9 = .ok (.iload_n 1, 1) := by decide +kernel
theorem dX5_lesser_10 : decode cX5_lesser 10 = .ok (.ireturn, 1) := by decide +kernel
theorem dX5_greater_0 : decode cX5_greater 0 = .ok (.iload_n 0, 1) := by decide +kernel
theorem dX5_greater_1 : decode cX5_greater 1 = .ok (.iload_n 1, 1) := by decide +kernel
theorem dX5_greater_2 : decode cX5_greater 2 = .ok (.if_icmp .le 7, 3) := by decide +kernel
theorem dX5_greater_5 : decode cX5_greater 5 = .ok (.iload_n 0, 1) := by decide +kernel
theorem dX5_greater_6 : decode cX5_greater 6 = .ok (.goto 4, 3) := by decide +kernel
theorem dX5_greater_9 : decode cX5_greater 9 = .ok (.iload_n 1, 1) := by decide +kernel
theorem dX5_greater_10 : decode cX5_greater 10 = .ok (.ireturn, 1) := by decide +kernel
theorem dX5_at_0 : decode cX5_at 0 = .ok (.bipush 7, 2) := by decide +kernel
theorem dX5_at_2 : decode cX5_at 2 = .ok (.bipush 24, 2) := by decide +kernel
theorem dX5_at_4 : decode cX5_at 4 = .ok (.iload_n 0, 1) := by decide +kernel
theorem dX5_at_5 : decode cX5_at 5 = .ok (.imul, 1) := by decide +kernel
theorem dX5_at_6 : decode cX5_at 6 = .ok (.iadd, 1) := by decide +kernel
theorem dX5_at_7 : decode cX5_at 7 = .ok (.iload_n 1, 1) := by decide +kernel
theorem dX5_at_8 : decode cX5_at 8 = .ok (.iadd, 1) := by decide +kernel
theorem dX5_at_9 : decode cX5_at 9 = .ok (.ireturn, 1) := by decide +kernel
theorem dX5_copies_0 : decode cX5_copies 0 = .ok (.iconst 0, 1) := by decide +kernel
theorem dX5_copies_1 : decode cX5_copies 1 = .ok (.istore 4, 2) := by decide +kernel
theorem dX5_copies_3 : decode cX5_copies 3 = .ok (.iload 4, 2) := by decide +kernel
theorem dX5_copies_5 : decode cX5_copies 5 = .ok (.bipush 103, 2) := by decide +kernel
theorem dX5_copies_7 : decode cX5_copies 7 = .ok (.if_icmp .ge 21, 3) := by decide +kernel
theorem dX5_copies_10 : decode cX5_copies 10 = .ok (.aload_n 2, 1) := by decide +kernel
theorem dX5_copies_11 : decode cX5_copies 11 = .ok (.iload_n 3, 1) := by decide +kernel
theorem dX5_copies_12 : decode cX5_copies 12 = .ok (.iload 4, 2) := by decide +kernel
theorem dX5_copies_14 : decode cX5_copies 14 = .ok (.iadd, 1) := by decide +kernel
theorem dX5_copies_15 : decode cX5_copies 15 = .ok (.aload_n 0, 1) := by decide +kernel
theorem dX5_copies_16 : decode cX5_copies 16 = .ok (.iload_n 1, 1) := by decide +kernel
theorem dX5_copies_17 : decode cX5_copies 17 = .ok (.iload 4, 2) := by decide +kernel
theorem dX5_copies_19 : decode cX5_copies 19 = .ok (.iadd, 1) := by decide +kernel
theorem dX5_copies_20 : decode cX5_copies 20 = .ok (.iaload, 1) := by decide +kernel
theorem dX5_copies_21 : decode cX5_copies 21 = .ok (.iastore, 1) := by decide +kernel
theorem dX5_copies_22 : decode cX5_copies 22 = .ok (.iinc 4 1, 3) := by decide +kernel
theorem dX5_copies_25 : decode cX5_copies 25 = .ok (.goto (-22), 3) := by decide +kernel
theorem dX5_copies_28 : decode cX5_copies 28 = .ok (.return_, 1) := by decide +kernel
theorem dX5_begins_0 : decode cX5_begins 0 = .ok (.iconst 0, 1) := by decide +kernel
theorem dX5_begins_1 : decode cX5_begins 1 = .ok (.istore_n 1, 1) := by decide +kernel
theorem dX5_begins_2 : decode cX5_begins 2 = .ok (.iload_n 1, 1) := by decide +kernel
theorem dX5_begins_3 : decode cX5_begins 3 = .ok (.bipush 103, 2) := by decide +kernel
theorem dX5_begins_5 : decode cX5_begins 5 = .ok (.if_icmp .ge 16, 3) := by decide +kernel
theorem dX5_begins_8 : decode cX5_begins 8 = .ok (.aload_n 0, 1) := by decide +kernel
theorem dX5_begins_9 : decode cX5_begins 9 = .ok (.getfield 13, 3) := by decide +kernel
theorem dX5_begins_12 : decode cX5_begins 12 = .ok (.iload_n 1, 1) := by decide +kernel
theorem dX5_begins_13 : decode cX5_begins 13 = .ok (.iconst 0, 1) := by decide +kernel
theorem dX5_begins_14 : decode cX5_begins 14 = .ok (.iastore, 1) := by decide +kernel
theorem dX5_begins_15 : decode cX5_begins 15 = .ok (.iinc 1 1, 3) := by decide +kernel
theorem dX5_begins_18 : decode cX5_begins 18 = .ok (.goto (-16), 3) := by decide +kernel
theorem dX5_begins_21 : decode cX5_begins 21 = .ok (.aload_n 0, 1) := by decide +kernel
theorem dX5_begins_22 : decode cX5_begins 22 = .ok (.getfield 13, 3) := by decide +kernel
theorem dX5_begins_25 : decode cX5_begins 25 = .ok (.iconst 2, 1) := by decide +kernel
theorem dX5_begins_26 : decode cX5_begins 26 = .ok (.bipush 60, 2) := by decide +kernel
theorem dX5_begins_28 : decode cX5_begins 28 = .ok (.iastore, 1) := by decide +kernel
theorem dX5_begins_29 : decode cX5_begins 29 = .ok (.aload_n 0, 1) := by decide +kernel
theorem dX5_begins_30 : decode cX5_begins 30 = .ok (.getfield 13, 3) := by decide +kernel
theorem dX5_begins_33 : decode cX5_begins 33 = .ok (.iconst 3, 1) := by decide +kernel
theorem dX5_begins_34 : decode cX5_begins 34 = .ok (.sipush 900, 3) := by decide +kernel
theorem dX5_begins_37 : decode cX5_begins 37 = .ok (.iastore, 1) := by decide +kernel
theorem dX5_begins_38 : decode cX5_begins 38 = .ok (.aload_n 0, 1) := by decide +kernel
theorem dX5_begins_39 : decode cX5_begins 39 = .ok (.getfield 13, 3) := by decide +kernel
theorem dX5_begins_42 : decode cX5_begins 42 = .ok (.iconst 4, 1) := by decide +kernel
theorem dX5_begins_43 : decode cX5_begins 43 = .ok (.bipush 20, 2) := by decide +kernel
theorem dX5_begins_45 : decode cX5_begins 45 = .ok (.iastore, 1) := by decide +kernel
theorem dX5_begins_46 : decode cX5_begins 46 = .ok (.aload_n 0, 1) := by decide +kernel
theorem dX5_begins_47 : decode cX5_begins 47 = .ok (.getfield 13, 3) := by decide +kernel
theorem dX5_begins_50 : decode cX5_begins 50 = .ok (.iconst 5, 1) := by decide +kernel
theorem dX5_begins_51 : decode cX5_begins 51 = .ok (.iconst 1, 1) := by decide +kernel
theorem dX5_begins_52 : decode cX5_begins 52 = .ok (.iastore, 1) := by decide +kernel
theorem dX5_begins_53 : decode cX5_begins 53 = .ok (.return_, 1) := by decide +kernel
theorem dX5_addsWay_0 : decode cX5_addsWay 0 = .ok (.aload_n 0, 1) := by decide +kernel
theorem dX5_addsWay_1 : decode cX5_addsWay 1 = .ok (.getfield 13, 3) := by decide +kernel
theorem dX5_addsWay_4 : decode cX5_addsWay 4 = .ok (.iconst 0, 1) := by decide +kernel
theorem dX5_addsWay_5 : decode cX5_addsWay 5 = .ok (.iaload, 1) := by decide +kernel
theorem dX5_addsWay_6 : decode cX5_addsWay 6 = .ok (.iconst 4, 1) := by decide +kernel
theorem dX5_addsWay_7 : decode cX5_addsWay 7 = .ok (.if_icmp .ge 7, 3) := by decide +kernel
theorem dX5_addsWay_10 : decode cX5_addsWay 10 = .ok (.iconst 1, 1) := by decide +kernel
theorem dX5_addsWay_11 : decode cX5_addsWay 11 = .ok (.goto 4, 3) := by decide +kernel
theorem dX5_addsWay_14 : decode cX5_addsWay 14 = .ok (.iconst 0, 1) := by decide +kernel
theorem dX5_addsWay_15 : decode cX5_addsWay 15 = .ok (.istore_n 1, 1) := by decide +kernel
theorem dX5_addsWay_16 : decode cX5_addsWay 16 = .ok (.aload_n 0, 1) := by decide +kernel
theorem dX5_addsWay_17 : decode cX5_addsWay 17 = .ok (.getfield 13, 3) := by decide +kernel
theorem dX5_addsWay_20 : decode cX5_addsWay 20 = .ok (.iconst 0, 1) := by decide +kernel
theorem dX5_addsWay_21 : decode cX5_addsWay 21 = .ok (.dup2, 1) := by decide +kernel
theorem dX5_addsWay_22 : decode cX5_addsWay 22 = .ok (.iaload, 1) := by decide +kernel
theorem dX5_addsWay_23 : decode cX5_addsWay 23 = .ok (.iload_n 1, 1) := by decide +kernel
theorem dX5_addsWay_24 : decode cX5_addsWay 24 = .ok (.ifCond .eq 7, 3) := by decide +kernel
theorem dX5_addsWay_27 : decode cX5_addsWay 27 = .ok (.iconst 1, 1) := by decide +kernel
theorem dX5_addsWay_28 : decode cX5_addsWay 28 = .ok (.goto 4, 3) := by decide +kernel
theorem dX5_addsWay_31 : decode cX5_addsWay 31 = .ok (.iconst 0, 1) := by decide +kernel
theorem dX5_addsWay_32 : decode cX5_addsWay 32 = .ok (.iadd, 1) := by decide +kernel
theorem dX5_addsWay_33 : decode cX5_addsWay 33 = .ok (.iastore, 1) := by decide +kernel
theorem dX5_addsWay_34 : decode cX5_addsWay 34 = .ok (.iload_n 1, 1) := by decide +kernel
theorem dX5_addsWay_35 : decode cX5_addsWay 35 = .ok (.ireturn, 1) := by decide +kernel
theorem dX5_addsHop_0 : decode cX5_addsHop 0 = .ok (.aload_n 0, 1) := by decide +kernel
theorem dX5_addsHop_1 : decode cX5_addsHop 1 = .ok (.getfield 13, 3) := by decide +kernel
theorem dX5_addsHop_4 : decode cX5_addsHop 4 = .ok (.iconst 0, 1) := by decide +kernel
theorem dX5_addsHop_5 : decode cX5_addsHop 5 = .ok (.iaload, 1) := by decide +kernel
theorem dX5_addsHop_6 : decode cX5_addsHop 6 = .ok (.iconst 1, 1) := by decide +kernel
theorem dX5_addsHop_7 : decode cX5_addsHop 7 = .ok (.isub, 1) := by decide +kernel
theorem dX5_addsHop_8 : decode cX5_addsHop 8 = .ok (.istore_n 3, 1) := by decide +kernel
theorem dX5_addsHop_9 : decode cX5_addsHop 9 = .ok (.iload_n 3, 1) := by decide +kernel
theorem dX5_addsHop_10 : decode cX5_addsHop 10 = .ok (.ifCond .lt 19, 3) := by decide +kernel
theorem dX5_addsHop_13 : decode cX5_addsHop 13 = .ok (.aload_n 0, 1) := by decide +kernel
theorem dX5_addsHop_14 : decode cX5_addsHop 14 = .ok (.getfield 13, 3) := by decide +kernel
theorem dX5_addsHop_17 : decode cX5_addsHop 17 = .ok (.iload_n 3, 1) := by decide +kernel
theorem dX5_addsHop_18 : decode cX5_addsHop 18 = .ok (.bipush 11, 2) := by decide +kernel
theorem dX5_addsHop_20 : decode cX5_addsHop 20 = .ok (.invokestatic 36, 3) := by decide +kernel
theorem dX5_addsHop_23 : decode cX5_addsHop 23 = .ok (.iaload, 1) := by decide +kernel
theorem dX5_addsHop_24 : decode cX5_addsHop 24 = .ok (.bipush 6, 2) := by decide +kernel
theorem dX5_addsHop_26 : decode cX5_addsHop 26 = .ok (.if_icmp .ne 5, 3) := by decide +kernel
theorem dX5_addsHop_29 : decode cX5_addsHop 29 = .ok (.iconst 0, 1) := by decide +kernel
theorem dX5_addsHop_30 : decode cX5_addsHop 30 = .ok (.ireturn, 1) := by decide +kernel
theorem dX5_addsHop_31 : decode cX5_addsHop 31 = .ok (.aload_n 0, 1) := by decide +kernel
theorem dX5_addsHop_32 : decode cX5_addsHop 32 = .ok (.getfield 13, 3) := by decide +kernel
theorem dX5_addsHop_35 : decode cX5_addsHop 35 = .ok (.iload_n 3, 1) := by decide +kernel
theorem dX5_addsHop_36 : decode cX5_addsHop 36 = .ok (.bipush 11, 2) := by decide +kernel
theorem dX5_addsHop_38 : decode cX5_addsHop 38 = .ok (.invokestatic 36, 3) := by decide +kernel
theorem dX5_addsHop_41 : decode cX5_addsHop 41 = .ok (.iaload, 1) := by decide +kernel
theorem dX5_addsHop_42 : decode cX5_addsHop 42 = .ok (.istore 4, 2) := by decide +kernel
theorem dX5_addsHop_44 : decode cX5_addsHop 44 = .ok (.aload_n 0, 1) := by decide +kernel
theorem dX5_addsHop_45 : decode cX5_addsHop 45 = .ok (.getfield 13, 3) := by decide +kernel
theorem dX5_addsHop_48 : decode cX5_addsHop 48 = .ok (.iload_n 3, 1) := by decide +kernel
theorem dX5_addsHop_49 : decode cX5_addsHop 49 = .ok (.bipush 12, 2) := by decide +kernel
theorem dX5_addsHop_51 : decode cX5_addsHop 51 = .ok (.iload 4, 2) := by decide +kernel
theorem dX5_addsHop_53 : decode cX5_addsHop 53 = .ok (.iadd, 1) := by decide +kernel
theorem dX5_addsHop_54 : decode cX5_addsHop 54 = .ok (.invokestatic 36, 3) := by decide +kernel
theorem dX5_addsHop_57 : decode cX5_addsHop 57 = .ok (.iload_n 1, 1) := by decide +kernel
theorem dX5_addsHop_58 : decode cX5_addsHop 58 = .ok (.iastore, 1) := by decide +kernel
theorem dX5_addsHop_59 : decode cX5_addsHop 59 = .ok (.aload_n 0, 1) := by decide +kernel
theorem dX5_addsHop_60 : decode cX5_addsHop 60 = .ok (.getfield 13, 3) := by decide +kernel
theorem dX5_addsHop_63 : decode cX5_addsHop 63 = .ok (.iload_n 3, 1) := by decide +kernel
theorem dX5_addsHop_64 : decode cX5_addsHop 64 = .ok (.bipush 18, 2) := by decide +kernel
theorem dX5_addsHop_66 : decode cX5_addsHop 66 = .ok (.iload 4, 2) := by decide +kernel
theorem dX5_addsHop_68 : decode cX5_addsHop 68 = .ok (.iadd, 1) := by decide +kernel
theorem dX5_addsHop_69 : decode cX5_addsHop 69 = .ok (.invokestatic 36, 3) := by decide +kernel
theorem dX5_addsHop_72 : decode cX5_addsHop 72 = .ok (.iload_n 2, 1) := by decide +kernel
theorem dX5_addsHop_73 : decode cX5_addsHop 73 = .ok (.iastore, 1) := by decide +kernel
theorem dX5_addsHop_74 : decode cX5_addsHop 74 = .ok (.aload_n 0, 1) := by decide +kernel
theorem dX5_addsHop_75 : decode cX5_addsHop 75 = .ok (.getfield 13, 3) := by decide +kernel
theorem dX5_addsHop_78 : decode cX5_addsHop 78 = .ok (.iload_n 3, 1) := by decide +kernel
theorem dX5_addsHop_79 : decode cX5_addsHop 79 = .ok (.bipush 11, 2) := by decide +kernel
theorem dX5_addsHop_81 : decode cX5_addsHop 81 = .ok (.invokestatic 36, 3) := by decide +kernel
theorem dX5_addsHop_84 : decode cX5_addsHop 84 = .ok (.dup2, 1) := by decide +kernel
theorem dX5_addsHop_85 : decode cX5_addsHop 85 = .ok (.iaload, 1) := by decide +kernel
theorem dX5_addsHop_86 : decode cX5_addsHop 86 = .ok (.iconst 1, 1) := by decide +kernel
theorem dX5_addsHop_87 : decode cX5_addsHop 87 = .ok (.iadd, 1) := by decide +kernel
theorem dX5_addsHop_88 : decode cX5_addsHop 88 = .ok (.iastore, 1) := by decide +kernel
theorem dX5_addsHop_89 : decode cX5_addsHop 89 = .ok (.iconst 1, 1) := by decide +kernel
theorem dX5_addsHop_90 : decode cX5_addsHop 90 = .ok (.ireturn, 1) := by decide +kernel
theorem dX5_takes_0 : decode cX5_takes 0 = .ok (.iconst 0, 1) := by decide +kernel
theorem dX5_takes_1 : decode cX5_takes 1 = .ok (.istore_n 1, 1) := by decide +kernel
theorem dX5_takes_2 : decode cX5_takes 2 = .ok (.iload_n 1, 1) := by decide +kernel
theorem dX5_takes_3 : decode cX5_takes 3 = .ok (.aload_n 0, 1) := by decide +kernel
theorem dX5_takes_4 : decode cX5_takes 4 = .ok (.getfield 13, 3) := by decide +kernel
theorem dX5_takes_7 : decode cX5_takes 7 = .ok (.iconst 0, 1) := by decide +kernel
theorem dX5_takes_8 : decode cX5_takes 8 = .ok (.iaload, 1) := by decide +kernel
theorem dX5_takes_9 : decode cX5_takes 9 = .ok (.if_icmp .ge 71, 3) := by decide +kernel
theorem dX5_takes_12 : decode cX5_takes 12 = .ok (.aload_n 0, 1) := by decide +kernel
theorem dX5_takes_13 : decode cX5_takes 13 = .ok (.getfield 13, 3) := by decide +kernel
theorem dX5_takes_16 : decode cX5_takes 16 = .ok (.iload_n 1, 1) := by decide +kernel
theorem dX5_takes_17 : decode cX5_takes 17 = .ok (.iconst 0, 1) := by decide +kernel
theorem dX5_takes_18 : decode cX5_takes 18 = .ok (.invokestatic 36, 3) := by decide +kernel
theorem dX5_takes_21 : decode cX5_takes 21 = .ok (.aload_n 0, 1) := by decide +kernel
theorem dX5_takes_22 : decode cX5_takes 22 = .ok (.getfield 13, 3) := by decide +kernel
theorem dX5_takes_25 : decode cX5_takes 25 = .ok (.iconst 2, 1) := by decide +kernel
theorem dX5_takes_26 : decode cX5_takes 26 = .ok (.iaload, 1) := by decide +kernel
theorem dX5_takes_27 : decode cX5_takes 27 = .ok (.iastore, 1) := by decide +kernel
theorem dX5_takes_28 : decode cX5_takes 28 = .ok (.aload_n 0, 1) := by decide +kernel
theorem dX5_takes_29 : decode cX5_takes 29 = .ok (.getfield 13, 3) := by decide +kernel
theorem dX5_takes_32 : decode cX5_takes 32 = .ok (.iload_n 1, 1) := by decide +kernel
theorem dX5_takes_33 : decode cX5_takes 33 = .ok (.iconst 1, 1) := by decide +kernel
theorem dX5_takes_34 : decode cX5_takes 34 = .ok (.invokestatic 36, 3) := by decide +kernel
theorem dX5_takes_37 : decode cX5_takes 37 = .ok (.aload_n 0, 1) := by decide +kernel
theorem dX5_takes_38 : decode cX5_takes 38 = .ok (.getfield 13, 3) := by decide +kernel
theorem dX5_takes_41 : decode cX5_takes 41 = .ok (.iconst 3, 1) := by decide +kernel
theorem dX5_takes_42 : decode cX5_takes 42 = .ok (.iaload, 1) := by decide +kernel
theorem dX5_takes_43 : decode cX5_takes 43 = .ok (.iastore, 1) := by decide +kernel
theorem dX5_takes_44 : decode cX5_takes 44 = .ok (.aload_n 0, 1) := by decide +kernel
theorem dX5_takes_45 : decode cX5_takes 45 = .ok (.getfield 13, 3) := by decide +kernel
theorem dX5_takes_48 : decode cX5_takes 48 = .ok (.iload_n 1, 1) := by decide +kernel
theorem dX5_takes_49 : decode cX5_takes 49 = .ok (.iconst 2, 1) := by decide +kernel
theorem dX5_takes_50 : decode cX5_takes 50 = .ok (.invokestatic 36, 3) := by decide +kernel
theorem dX5_takes_53 : decode cX5_takes 53 = .ok (.aload_n 0, 1) := by decide +kernel
theorem dX5_takes_54 : decode cX5_takes 54 = .ok (.getfield 13, 3) := by decide +kernel
theorem dX5_takes_57 : decode cX5_takes 57 = .ok (.iconst 2, 1) := by decide +kernel
theorem dX5_takes_58 : decode cX5_takes 58 = .ok (.iaload, 1) := by decide +kernel
theorem dX5_takes_59 : decode cX5_takes 59 = .ok (.aload_n 0, 1) := by decide +kernel
theorem dX5_takes_60 : decode cX5_takes 60 = .ok (.getfield 13, 3) := by decide +kernel
theorem dX5_takes_63 : decode cX5_takes 63 = .ok (.iconst 3, 1) := by decide +kernel
theorem dX5_takes_64 : decode cX5_takes 64 = .ok (.iaload, 1) := by decide +kernel
theorem dX5_takes_65 : decode cX5_takes 65 = .ok (.if_icmp .ne 7, 3) := by decide +kernel
theorem dX5_takes_68 : decode cX5_takes 68 = .ok (.iconst 1, 1) := by decide +kernel
theorem dX5_takes_69 : decode cX5_takes 69 = .ok (.goto 4, 3) := by decide +kernel
theorem dX5_takes_72 : decode cX5_takes 72 = .ok (.iconst 0, 1) := by decide +kernel
theorem dX5_takes_73 : decode cX5_takes 73 = .ok (.iastore, 1) := by decide +kernel
theorem dX5_takes_74 : decode cX5_takes 74 = .ok (.iinc 1 1, 3) := by decide +kernel
theorem dX5_takes_77 : decode cX5_takes 77 = .ok (.goto (-75), 3) := by decide +kernel
theorem dX5_takes_80 : decode cX5_takes 80 = .ok (.aload_n 0, 1) := by decide +kernel
theorem dX5_takes_81 : decode cX5_takes 81 = .ok (.getfield 13, 3) := by decide +kernel
theorem dX5_takes_84 : decode cX5_takes 84 = .ok (.iconst 0, 1) := by decide +kernel
theorem dX5_takes_85 : decode cX5_takes 85 = .ok (.aload_n 0, 1) := by decide +kernel
theorem dX5_takes_86 : decode cX5_takes 86 = .ok (.getfield 7, 3) := by decide +kernel
theorem dX5_takes_89 : decode cX5_takes 89 = .ok (.iconst 0, 1) := by decide +kernel
theorem dX5_takes_90 : decode cX5_takes 90 = .ok (.invokestatic 43, 3) := by decide +kernel
theorem dX5_takes_93 : decode cX5_takes 93 = .ok (.aload_n 0, 1) := by decide +kernel
theorem dX5_takes_94 : decode cX5_takes 94 = .ok (.iconst 0, 1) := by decide +kernel
theorem dX5_takes_95 : decode cX5_takes 95 = .ok (.putfield 47, 3) := by decide +kernel
theorem dX5_takes_98 : decode cX5_takes 98 = .ok (.return_, 1) := by decide +kernel
theorem dX5_isAt_0 : decode cX5_isAt 0 = .ok (.aload_n 0, 1) := by decide +kernel
theorem dX5_isAt_1 : decode cX5_isAt 1 = .ok (.getfield 51, 3) := by decide +kernel
theorem dX5_isAt_4 : decode cX5_isAt 4 = .ok (.aload_n 0, 1) := by decide +kernel
theorem dX5_isAt_5 : decode cX5_isAt 5 = .ok (.getfield 54, 3) := by decide +kernel
theorem dX5_isAt_8 : decode cX5_isAt 8 = .ok (.if_icmp .ge 24, 3) := by decide +kernel
theorem dX5_isAt_11 : decode cX5_isAt 11 = .ok (.aload_n 0, 1) := by decide +kernel
theorem dX5_isAt_12 : decode cX5_isAt 12 = .ok (.getfield 22, 3) := by decide +kernel
theorem dX5_isAt_15 : decode cX5_isAt 15 = .ok (.aload_n 0, 1) := by decide +kernel
theorem dX5_isAt_16 : decode cX5_isAt 16 = .ok (.getfield 51, 3) := by decide +kernel
theorem dX5_isAt_19 : decode cX5_isAt 19 = .ok (.iaload, 1) := by decide +kernel
theorem dX5_isAt_20 : decode cX5_isAt 20 = .ok (.iload_n 1, 1) := by decide +kernel
theorem dX5_isAt_21 : decode cX5_isAt 21 = .ok (.iload_n 2, 1) := by decide +kernel
theorem dX5_isAt_22 : decode cX5_isAt 22 = .ok (.invokestatic 57, 3) := by decide +kernel
theorem dX5_isAt_25 : decode cX5_isAt 25 = .ok (.ifCond .eq 7, 3) := by decide +kernel
theorem dX5_isAt_28 : decode cX5_isAt 28 = .ok (.iconst 1, 1) := by decide +kernel
theorem dX5_isAt_29 : decode cX5_isAt 29 = .ok (.goto 4, 3) := by decide +kernel
theorem dX5_isAt_32 : decode cX5_isAt 32 = .ok (.iconst 0, 1) := by decide +kernel
theorem dX5_isAt_33 : decode cX5_isAt 33 = .ok (.ireturn, 1) := by decide +kernel
theorem dX5_takesSign_0 : decode cX5_takesSign 0 = .ok (.aload_n 0, 1) := by decide +kernel
theorem dX5_takesSign_1 : decode cX5_takesSign 1 = .ok (.iload_n 1, 1) := by decide +kernel
theorem dX5_takesSign_2 : decode cX5_takesSign 2 = .ok (.iload_n 1, 1) := by decide +kernel
theorem dX5_takesSign_3 : decode cX5_takesSign 3 = .ok (.invokevirtual 61, 3) := by decide +kernel
theorem dX5_takesSign_6 : decode cX5_takesSign 6 = .ok (.istore_n 2, 1) := by decide +kernel
theorem dX5_takesSign_7 : decode cX5_takesSign 7 = .ok (.aload_n 0, 1) := by decide +kernel
theorem dX5_takesSign_8 : decode cX5_takesSign 8 = .ok (.dup, 1) := by decide +kernel
theorem dX5_takesSign_9 : decode cX5_takesSign 9 = .ok (.getfield 51, 3) := by decide +kernel
theorem dX5_takesSign_12 : decode cX5_takesSign 12 = .ok (.iload_n 2, 1) := by decide +kernel
theorem dX5_takesSign_13 : decode cX5_takesSign 13 = .ok (.ifCond .eq 7, 3) := by decide +kernel
theorem dX5_takesSign_16 : decode cX5_takesSign 16 = .ok (.iconst 1, 1) := by decide +kernel
theorem dX5_takesSign_17 : decode cX5_takesSign 17 = .ok (.goto 4, 3) := by decide +kernel
theorem dX5_takesSign_20 : decode cX5_takesSign 20 = .ok (.iconst 0, 1) := by decide +kernel
theorem dX5_takesSign_21 : decode cX5_takesSign 21 = .ok (.iadd, 1) := by decide +kernel
theorem dX5_takesSign_22 : decode cX5_takesSign 22 = .ok (.putfield 51, 3) := by decide +kernel
theorem dX5_takesSign_25 : decode cX5_takesSign 25 = .ok (.iload_n 2, 1) := by decide +kernel
theorem dX5_takesSign_26 : decode cX5_takesSign 26 = .ok (.ireturn, 1) := by decide +kernel
theorem dX5_takesWord_0 : decode cX5_takesWord 0 = .ok (.lconst 0, 1) := by decide +kernel
theorem dX5_takesWord_1 : decode cX5_takesWord 1 = .ok (.lstore_n 1, 1) := by decide +kernel
theorem dX5_takesWord_2 : decode cX5_takesWord 2 = .ok (.iconst 0, 1) := by decide +kernel
theorem dX5_takesWord_3 : decode cX5_takesWord 3 = .ok (.istore_n 3, 1) := by decide +kernel
theorem dX5_takesWord_4 : decode cX5_takesWord 4 = .ok (.aload_n 0, 1) := by decide +kernel
theorem dX5_takesWord_5 : decode cX5_takesWord 5 = .ok (.bipush 97, 2) := by decide +kernel
theorem dX5_takesWord_7 : decode cX5_takesWord 7 = .ok (.bipush 122, 2) := by decide +kernel
theorem dX5_takesWord_9 : decode cX5_takesWord 9 = .ok (.invokevirtual 61, 3) := by decide +kernel
theorem dX5_takesWord_12 : decode cX5_takesWord 12 = .ok (.ifCond .eq 64, 3) := by decide +kernel
theorem dX5_takesWord_15 : decode cX5_takesWord 15 = .ok (.iload_n 3, 1) := by decide +kernel
theorem dX5_takesWord_16 : decode cX5_takesWord 16 = .ok (.bipush 8, 2) := by decide +kernel
theorem dX5_takesWord_18 : decode cX5_takesWord 18 = .ok (.if_icmp .ge 26, 3) := by decide +kernel
theorem dX5_takesWord_21 : decode cX5_takesWord 21 = .ok (.ldc2_w 64, 3) := by decide +kernel
theorem dX5_takesWord_24 : decode cX5_takesWord 24 = .ok (.lload_n 1, 1) := by decide +kernel
theorem dX5_takesWord_25 : decode cX5_takesWord 25 = .ok (.lmul, 1) := by decide +kernel
theorem dX5_takesWord_26 : decode cX5_takesWord 26 = .ok (.aload_n 0, 1) := by decide +kernel
theorem dX5_takesWord_27 : decode cX5_takesWord 27 = .ok (.getfield 22, 3) := by decide +kernel
theorem dX5_takesWord_30 : decode cX5_takesWord 30 = .ok (.aload_n 0, 1) := by decide +kernel
theorem dX5_takesWord_31 : decode cX5_takesWord 31 = .ok (.getfield 51, 3) := by decide +kernel
theorem dX5_takesWord_34 : decode cX5_takesWord 34 = .ok (.iaload, 1) := by decide +kernel
theorem dX5_takesWord_35 : decode cX5_takesWord 35 = .ok (.i2l, 1) := by decide +kernel
theorem dX5_takesWord_36 : decode cX5_takesWord 36 = .ok (.ladd, 1) := by decide +kernel
theorem dX5_takesWord_37 : decode cX5_takesWord 37 = .ok (.ldc2_w 66, 3) := by decide +kernel
theorem dX5_takesWord_40 : decode cX5_takesWord 40 = .ok (.lsub, 1) := by decide +kernel
theorem dX5_takesWord_41 : decode cX5_takesWord 41 = .ok (.goto 6, 3) := by decide +kernel
theorem dX5_takesWord_44 : decode cX5_takesWord 44 = .ok (.ldc2_w 68, 3) := by decide +kernel
theorem dX5_takesWord_47 : decode cX5_takesWord 47 = .ok (.lstore_n 1, 1) := by decide +kernel
theorem dX5_takesWord_48 : decode cX5_takesWord 48 = .ok (.lload_n 1, 1) := by decide +kernel
theorem dX5_takesWord_49 : decode cX5_takesWord 49 = .ok (.lconst 0, 1) := by decide +kernel
theorem dX5_takesWord_50 : decode cX5_takesWord 50 = .ok (.lcmp, 1) := by decide +kernel
theorem dX5_takesWord_51 : decode cX5_takesWord 51 = .ok (.ifCond .ge 8, 3) := by decide +kernel
theorem dX5_takesWord_54 : decode cX5_takesWord 54 = .ok (.bipush 9, 2) := by decide +kernel
theorem dX5_takesWord_56 : decode cX5_takesWord 56 = .ok (.goto 6, 3) := by decide +kernel
theorem dX5_takesWord_59 : decode cX5_takesWord 59 = .ok (.iload_n 3, 1) := by decide +kernel
theorem dX5_takesWord_60 : decode cX5_takesWord 60 = .ok (.iconst 1, 1) := by decide +kernel
theorem dX5_takesWord_61 : decode cX5_takesWord 61 = .ok (.iadd, 1) := by decide +kernel
theorem dX5_takesWord_62 : decode cX5_takesWord 62 = .ok (.istore_n 3, 1) := by decide +kernel
theorem dX5_takesWord_63 : decode cX5_takesWord 63 = .ok (.aload_n 0, 1) := by decide +kernel
theorem dX5_takesWord_64 : decode cX5_takesWord 64 = .ok (.dup, 1) := by decide +kernel
theorem dX5_takesWord_65 : decode cX5_takesWord 65 = .ok (.getfield 51, 3) := by decide +kernel
theorem dX5_takesWord_68 : decode cX5_takesWord 68 = .ok (.iconst 1, 1) := by decide +kernel
theorem dX5_takesWord_69 : decode cX5_takesWord 69 = .ok (.iadd, 1) := by decide +kernel
theorem dX5_takesWord_70 : decode cX5_takesWord 70 = .ok (.putfield 51, 3) := by decide +kernel
theorem dX5_takesWord_73 : decode cX5_takesWord 73 = .ok (.goto (-69), 3) := by decide +kernel
theorem dX5_takesWord_76 : decode cX5_takesWord 76 = .ok (.lload_n 1, 1) := by decide +kernel
theorem dX5_takesWord_77 : decode cX5_takesWord 77 = .ok (.lreturn, 1) := by decide +kernel
theorem dX5_takesNumber_0 : decode cX5_takesNumber 0 = .ok (.aload_n 0, 1) := by decide +kernel
theorem dX5_takesNumber_1 : decode cX5_takesNumber 1 = .ok (.bipush 32, 2) := by decide +kernel
theorem dX5_takesNumber_3 : decode cX5_takesNumber 3 = .ok (.invokevirtual 70, 3) := by decide +kernel
theorem dX5_takesNumber_6 : decode cX5_takesNumber 6 = .ok (.ifCond .ne 6, 3) := by decide +kernel
theorem dX5_takesNumber_9 : decode cX5_takesNumber 9 = .ok (.bipush (-4), 2) := by decide +kernel
theorem dX5_takesNumber_11 : decode cX5_takesNumber 11 = .ok (.ireturn, 1) := by decide +kernel
theorem dX5_takesNumber_12 : decode cX5_takesNumber 12 = .ok (.aload_n 0, 1) := by decide +kernel
theorem dX5_takesNumber_13 : decode cX5_takesNumber 13 = .ok (.getfield 51, 3) := by decide +kernel
theorem dX5_takesNumber_16 : decode cX5_takesNumber 16 = .ok (.istore_n 3, 1) := by decide +kernel
theorem dX5_takesNumber_17 : decode cX5_takesNumber 17 = .ok (.iconst 0, 1) := by decide +kernel
theorem dX5_takesNumber_18 : decode cX5_takesNumber 18 = .ok (.istore 4, 2) := by decide +kernel
theorem dX5_takesNumber_20 : decode cX5_takesNumber 20 = .ok (.aload_n 0, 1) := by decide +kernel
theorem dX5_takesNumber_21 : decode cX5_takesNumber 21 = .ok (.getfield 51, 3) := by decide +kernel
theorem dX5_takesNumber_24 : decode cX5_takesNumber 24 = .ok (.iload_n 3, 1) := by decide +kernel
theorem dX5_takesNumber_25 : decode cX5_takesNumber 25 = .ok (.iconst 4, 1) := by decide +kernel
theorem dX5_takesNumber_26 : decode cX5_takesNumber 26 = .ok (.iadd, 1) := by decide +kernel
theorem dX5_takesNumber_27 : decode cX5_takesNumber 27 = .ok (.if_icmp .ge 47, 3) := by decide +kernel
theorem dX5_takesNumber_30 : decode cX5_takesNumber 30 = .ok (.aload_n 0, 1) := by decide +kernel
theorem dX5_takesNumber_31 : decode cX5_takesNumber 31 = .ok (.bipush 48, 2) := by decide +kernel
theorem dX5_takesNumber_33 : decode cX5_takesNumber 33 = .ok (.bipush 57, 2) := by decide +kernel
theorem dX5_takesNumber_35 : decode cX5_takesNumber 35 = .ok (.invokevirtual 61, 3) := by decide +kernel
theorem dX5_takesNumber_38 : decode cX5_takesNumber 38 = .ok (.ifCond .eq 36, 3) := by decide +kernel
theorem dX5_takesNumber_41 : decode cX5_takesNumber 41 = .ok (.bipush 10, 2) := by decide +kernel
theorem dX5_takesNumber_43 : decode cX5_takesNumber 43 = .ok (.iload 4, 2) := by decide +kernel
theorem dX5_takesNumber_45 : decode cX5_takesNumber 45 = .ok (.imul, 1) := by decide +kernel
theorem dX5_takesNumber_46 : decode cX5_takesNumber 46 = .ok (.aload_n 0, 1) := by decide +kernel
theorem dX5_takesNumber_47 : decode cX5_takesNumber 47 = .ok (.getfield 22, 3) := by decide +kernel
theorem dX5_takesNumber_50 : decode cX5_takesNumber 50 = .ok (.aload_n 0, 1) := by decide +kernel
theorem dX5_takesNumber_51 : decode cX5_takesNumber 51 = .ok (.getfield 51, 3) := by decide +kernel
theorem dX5_takesNumber_54 : decode cX5_takesNumber 54 = .ok (.iaload, 1) := by decide +kernel
theorem dX5_takesNumber_55 : decode cX5_takesNumber 55 = .ok (.iadd, 1) := by decide +kernel
theorem dX5_takesNumber_56 : decode cX5_takesNumber 56 = .ok (.bipush 48, 2) := by decide +kernel
theorem dX5_takesNumber_58 : decode cX5_takesNumber 58 = .ok (.isub, 1) := by decide +kernel
theorem dX5_takesNumber_59 : decode cX5_takesNumber 59 = .ok (.istore 4, 2) := by decide +kernel
theorem dX5_takesNumber_61 : decode cX5_takesNumber 61 = .ok (.aload_n 0, 1) := by decide +kernel
theorem dX5_takesNumber_62 : decode cX5_takesNumber 62 = .ok (.dup, 1) := by decide +kernel
theorem dX5_takesNumber_63 : decode cX5_takesNumber 63 = .ok (.getfield 51, 3) := by decide +kernel
theorem dX5_takesNumber_66 : decode cX5_takesNumber 66 = .ok (.iconst 1, 1) := by decide +kernel
theorem dX5_takesNumber_67 : decode cX5_takesNumber 67 = .ok (.iadd, 1) := by decide +kernel
theorem dX5_takesNumber_68 : decode cX5_takesNumber 68 = .ok (.putfield 51, 3) := by decide +kernel
theorem dX5_takesNumber_71 : decode cX5_takesNumber 71 = .ok (.goto (-51), 3) := by decide +kernel
theorem dX5_takesNumber_74 : decode cX5_takesNumber 74 = .ok (.aload_n 0, 1) := by decide +kernel
theorem dX5_takesNumber_75 : decode cX5_takesNumber 75 = .ok (.getfield 51, 3) := by decide +kernel
theorem dX5_takesNumber_78 : decode cX5_takesNumber 78 = .ok (.iload_n 3, 1) := by decide +kernel
theorem dX5_takesNumber_79 : decode cX5_takesNumber 79 = .ok (.if_icmp .le 18, 3) := by decide +kernel
theorem dX5_takesNumber_82 : decode cX5_takesNumber 82 = .ok (.iload 4, 2) := by decide +kernel
theorem dX5_takesNumber_84 : decode cX5_takesNumber 84 = .ok (.iload_n 1, 1) := by decide +kernel
theorem dX5_takesNumber_85 : decode cX5_takesNumber 85 = .ok (.iload_n 2, 1) := by decide +kernel
theorem dX5_takesNumber_86 : decode cX5_takesNumber 86 = .ok (.invokestatic 57, 3) := by decide +kernel
theorem dX5_takesNumber_89 : decode cX5_takesNumber 89 = .ok (.ifCond .eq 8, 3) := by decide +kernel
theorem dX5_takesNumber_92 : decode cX5_takesNumber 92 = .ok (.iload 4, 2) := by decide +kernel
theorem dX5_takesNumber_94 : decode cX5_takesNumber 94 = .ok (.goto 5, 3) := by decide +kernel
theorem dX5_takesNumber_97 : decode cX5_takesNumber 97 = .ok (.bipush (-4), 2) := by decide +kernel
theorem dX5_takesNumber_99 : decode cX5_takesNumber 99 = .ok (.ireturn, 1) := by decide +kernel
theorem dX5_puts_0 : decode cX5_puts 0 = .ok (.aload_n 0, 1) := by decide +kernel
theorem dX5_puts_1 : decode cX5_puts 1 = .ok (.iload_n 2, 1) := by decide +kernel
theorem dX5_puts_2 : decode cX5_puts 2 = .ok (.iload_n 3, 1) := by decide +kernel
theorem dX5_puts_3 : decode cX5_puts 3 = .ok (.invokevirtual 74, 3) := by decide +kernel
theorem dX5_puts_6 : decode cX5_puts 6 = .ok (.istore 4, 2) := by decide +kernel
theorem dX5_puts_8 : decode cX5_puts 8 = .ok (.aload_n 0, 1) := by decide +kernel
theorem dX5_puts_9 : decode cX5_puts 9 = .ok (.getfield 13, 3) := by decide +kernel
theorem dX5_puts_12 : decode cX5_puts 12 = .ok (.iload_n 1, 1) := by decide +kernel
theorem dX5_puts_13 : decode cX5_puts 13 = .ok (.iload 4, 2) := by decide +kernel
theorem dX5_puts_15 : decode cX5_puts 15 = .ok (.bipush (-4), 2) := by decide +kernel
theorem dX5_puts_17 : decode cX5_puts 17 = .ok (.if_icmp .ne 12, 3) := by decide +kernel
theorem dX5_puts_20 : decode cX5_puts 20 = .ok (.aload_n 0, 1) := by decide +kernel
theorem dX5_puts_21 : decode cX5_puts 21 = .ok (.getfield 13, 3) := by decide +kernel
theorem dX5_puts_24 : decode cX5_puts 24 = .ok (.iload_n 1, 1) := by decide +kernel
theorem dX5_puts_25 : decode cX5_puts 25 = .ok (.iaload, 1) := by decide +kernel
theorem dX5_puts_26 : decode cX5_puts 26 = .ok (.goto 5, 3) := by decide +kernel
theorem dX5_puts_29 : decode cX5_puts 29 = .ok (.iload 4, 2) := by decide +kernel
theorem dX5_puts_31 : decode cX5_puts 31 = .ok (.iastore, 1) := by decide +kernel
theorem dX5_puts_32 : decode cX5_puts 32 = .ok (.iload 4, 2) := by decide +kernel
theorem dX5_puts_34 : decode cX5_puts 34 = .ok (.bipush (-4), 2) := by decide +kernel
theorem dX5_puts_36 : decode cX5_puts 36 = .ok (.if_icmp .eq 7, 3) := by decide +kernel
theorem dX5_puts_39 : decode cX5_puts 39 = .ok (.iconst 1, 1) := by decide +kernel
theorem dX5_puts_40 : decode cX5_puts 40 = .ok (.goto 4, 3) := by decide +kernel
theorem dX5_puts_43 : decode cX5_puts 43 = .ok (.iconst 0, 1) := by decide +kernel
theorem dX5_puts_44 : decode cX5_puts 44 = .ok (.ireturn, 1) := by decide +kernel
theorem dX5_takesHop_0 : decode cX5_takesHop 0 = .ok (.aload_n 0, 1) := by decide +kernel
theorem dX5_takesHop_1 : decode cX5_takesHop 1 = .ok (.bipush 20, 2) := by decide +kernel
theorem dX5_takesHop_3 : decode cX5_takesHop 3 = .ok (.sipush 999, 3) := by decide +kernel
theorem dX5_takesHop_6 : decode cX5_takesHop 6 = .ok (.invokevirtual 74, 3) := by decide +kernel
theorem dX5_takesHop_9 : decode cX5_takesHop 9 = .ok (.istore_n 1, 1) := by decide +kernel
theorem dX5_takesHop_10 : decode cX5_takesHop 10 = .ok (.iload_n 1, 1) := by decide +kernel
theorem dX5_takesHop_11 : decode cX5_takesHop 11 = .ok (.bipush (-4), 2) := by decide +kernel
theorem dX5_takesHop_13 : decode cX5_takesHop 13 = .ok (.if_icmp .eq 12, 3) := by decide +kernel
theorem dX5_takesHop_16 : decode cX5_takesHop 16 = .ok (.aload_n 0, 1) := by decide +kernel
theorem dX5_takesHop_17 : decode cX5_takesHop 17 = .ok (.bipush 32, 2) := by decide +kernel
theorem dX5_takesHop_19 : decode cX5_takesHop 19 = .ok (.invokevirtual 70, 3) := by decide +kernel
theorem dX5_takesHop_22 : decode cX5_takesHop 22 = .ok (.ifCond .ne 5, 3) := by decide +kernel
theorem dX5_takesHop_25 : decode cX5_takesHop 25 = .ok (.iconst 0, 1) := by decide +kernel
theorem dX5_takesHop_26 : decode cX5_takesHop 26 = .ok (.ireturn, 1) := by decide +kernel
theorem dX5_takesHop_27 : decode cX5_takesHop 27 = .ok (.aload_n 0, 1) := by decide +kernel
theorem dX5_takesHop_28 : decode cX5_takesHop 28 = .ok (.invokevirtual 77, 3) := by decide +kernel
theorem dX5_takesHop_31 : decode cX5_takesHop 31 = .ok (.lstore_n 2, 1) := by decide +kernel
theorem dX5_takesHop_32 : decode cX5_takesHop 32 = .ok (.lload_n 2, 1) := by decide +kernel
theorem dX5_takesHop_33 : decode cX5_takesHop 33 = .ok (.ldc2_w 81, 3) := by decide +kernel
theorem dX5_takesHop_36 : decode cX5_takesHop 36 = .ok (.lcmp, 1) := by decide +kernel
theorem dX5_takesHop_37 : decode cX5_takesHop 37 = .ok (.ifCond .ne 7, 3) := by decide +kernel
theorem dX5_takesHop_40 : decode cX5_takesHop 40 = .ok (.iconst 0, 1) := by decide +kernel
theorem dX5_takesHop_41 : decode cX5_takesHop 41 = .ok (.goto 41, 3) := by decide +kernel
theorem dX5_takesHop_44 : decode cX5_takesHop 44 = .ok (.lload_n 2, 1) := by decide +kernel
theorem dX5_takesHop_45 : decode cX5_takesHop 45 = .ok (.ldc2_w 83, 3) := by decide +kernel
theorem dX5_takesHop_48 : decode cX5_takesHop 48 = .ok (.lcmp, 1) := by decide +kernel
theorem dX5_takesHop_49 : decode cX5_takesHop 49 = .ok (.ifCond .ne 7, 3) := by decide +kernel
theorem dX5_takesHop_52 : decode cX5_takesHop 52 = .ok (.iconst 1, 1) := by decide +kernel
theorem dX5_takesHop_53 : decode cX5_takesHop 53 = .ok (.goto 29, 3) := by decide +kernel
theorem dX5_takesHop_56 : decode cX5_takesHop 56 = .ok (.lload_n 2, 1) := by decide +kernel
theorem dX5_takesHop_57 : decode cX5_takesHop 57 = .ok (.ldc2_w 85, 3) := by decide +kernel
theorem dX5_takesHop_60 : decode cX5_takesHop 60 = .ok (.lcmp, 1) := by decide +kernel
theorem dX5_takesHop_61 : decode cX5_takesHop 61 = .ok (.ifCond .ne 7, 3) := by decide +kernel
theorem dX5_takesHop_64 : decode cX5_takesHop 64 = .ok (.iconst 2, 1) := by decide +kernel
theorem dX5_takesHop_65 : decode cX5_takesHop 65 = .ok (.goto 17, 3) := by decide +kernel
end
section
theorem dX5_takesHop_68 : decode cX5_takesHop 68 = .ok (.lload_n 2, 1) := by decide +kernel
theorem dX5_takesHop_69 : decode cX5_takesHop 69 = .ok (.ldc2_w 87, 3) := by decide +kernel
theorem dX5_takesHop_72 : decode cX5_takesHop 72 = .ok (.lcmp, 1) := by decide +kernel
theorem dX5_takesHop_73 : decode cX5_takesHop 73 = .ok (.ifCond .ne 7, 3) := by decide +kernel
theorem dX5_takesHop_76 : decode cX5_takesHop 76 = .ok (.iconst 3, 1) := by decide +kernel
theorem dX5_takesHop_77 : decode cX5_takesHop 77 = .ok (.goto 5, 3) := by decide +kernel
theorem dX5_takesHop_80 : decode cX5_takesHop 80 = .ok (.bipush (-4), 2) := by decide +kernel
theorem dX5_takesHop_82 : decode cX5_takesHop 82 = .ok (.istore 4, 2) := by decide +kernel
theorem dX5_takesHop_84 : decode cX5_takesHop 84 = .ok (.iload 4, 2) := by decide +kernel
theorem dX5_takesHop_86 : decode cX5_takesHop 86 = .ok (.bipush (-4), 2) := by decide +kernel
theorem dX5_takesHop_88 : decode cX5_takesHop 88 = .ok (.if_icmp .eq 17, 3) := by decide +kernel
theorem dX5_takesHop_91 : decode cX5_takesHop 91 = .ok (.aload_n 0, 1) := by decide +kernel
theorem dX5_takesHop_92 : decode cX5_takesHop 92 = .ok (.iload_n 1, 1) := by decide +kernel
theorem dX5_takesHop_93 : decode cX5_takesHop 93 = .ok (.iload 4, 2) := by decide +kernel
theorem dX5_takesHop_95 : decode cX5_takesHop 95 = .ok (.invokevirtual 32, 3) := by decide +kernel
theorem dX5_takesHop_98 : decode cX5_takesHop 98 = .ok (.ifCond .eq 7, 3) := by decide +kernel
theorem dX5_takesHop_101 : decode cX5_takesHop 101 = .ok (.iconst 1, 1) := by decide +kernel
theorem dX5_takesHop_102 : decode cX5_takesHop 102 = .ok (.goto 4, 3) := by decide +kernel
theorem dX5_takesHop_105 : decode cX5_takesHop 105 = .ok (.iconst 0, 1) := by decide +kernel
theorem dX5_takesHop_106 : decode cX5_takesHop 106 = .ok (.ireturn, 1) := by decide +kernel
theorem dX5_takesBelief_0 : decode cX5_takesBelief 0 = .ok (.aload_n 0, 1) := by decide +kernel
theorem dX5_takesBelief_1 : decode cX5_takesBelief 1 = .ok (.bipush 32, 2) := by decide +kernel
theorem dX5_takesBelief_3 : decode cX5_takesBelief 3 = .ok (.invokevirtual 70, 3) := by decide +kernel
theorem dX5_takesBelief_6 : decode cX5_takesBelief 6 = .ok (.ifCond .ne 5, 3) := by decide +kernel
theorem dX5_takesBelief_9 : decode cX5_takesBelief 9 = .ok (.iconst 0, 1) := by decide +kernel
theorem dX5_takesBelief_10 : decode cX5_takesBelief 10 = .ok (.ireturn, 1) := by decide +kernel
theorem dX5_takesBelief_11 : decode cX5_takesBelief 11 = .ok (.aload_n 0, 1) := by decide +kernel
theorem dX5_takesBelief_12 : decode cX5_takesBelief 12 = .ok (.invokevirtual 77, 3) := by decide +kernel
theorem dX5_takesBelief_15 : decode cX5_takesBelief 15 = .ok (.lstore_n 1, 1) := by decide +kernel
theorem dX5_takesBelief_16 : decode cX5_takesBelief 16 = .ok (.lload_n 1, 1) := by decide +kernel
theorem dX5_takesBelief_17 : decode cX5_takesBelief 17 = .ok (.ldc2_w 89, 3) := by decide +kernel
theorem dX5_takesBelief_20 : decode cX5_takesBelief 20 = .ok (.lcmp, 1) := by decide +kernel
theorem dX5_takesBelief_21 : decode cX5_takesBelief 21 = .ok (.ifCond .ne 7, 3) := by decide +kernel
theorem dX5_takesBelief_24 : decode cX5_takesBelief 24 = .ok (.iconst 0, 1) := by decide +kernel
theorem dX5_takesBelief_25 : decode cX5_takesBelief 25 = .ok (.goto 29, 3) := by decide +kernel
theorem dX5_takesBelief_28 : decode cX5_takesBelief 28 = .ok (.lload_n 1, 1) := by decide +kernel
theorem dX5_takesBelief_29 : decode cX5_takesBelief 29 = .ok (.ldc2_w 91, 3) := by decide +kernel
theorem dX5_takesBelief_32 : decode cX5_takesBelief 32 = .ok (.lcmp, 1) := by decide +kernel
theorem dX5_takesBelief_33 : decode cX5_takesBelief 33 = .ok (.ifCond .ne 7, 3) := by decide +kernel
theorem dX5_takesBelief_36 : decode cX5_takesBelief 36 = .ok (.iconst 1, 1) := by decide +kernel
theorem dX5_takesBelief_37 : decode cX5_takesBelief 37 = .ok (.goto 17, 3) := by decide +kernel
theorem dX5_takesBelief_40 : decode cX5_takesBelief 40 = .ok (.lload_n 1, 1) := by decide +kernel
theorem dX5_takesBelief_41 : decode cX5_takesBelief 41 = .ok (.ldc2_w 93, 3) := by decide +kernel
theorem dX5_takesBelief_44 : decode cX5_takesBelief 44 = .ok (.lcmp, 1) := by decide +kernel
theorem dX5_takesBelief_45 : decode cX5_takesBelief 45 = .ok (.ifCond .ne 7, 3) := by decide +kernel
theorem dX5_takesBelief_48 : decode cX5_takesBelief 48 = .ok (.iconst 2, 1) := by decide +kernel
theorem dX5_takesBelief_49 : decode cX5_takesBelief 49 = .ok (.goto 5, 3) := by decide +kernel
theorem dX5_takesBelief_52 : decode cX5_takesBelief 52 = .ok (.bipush (-4), 2) := by decide +kernel
theorem dX5_takesBelief_54 : decode cX5_takesBelief 54 = .ok (.istore_n 3, 1) := by decide +kernel
theorem dX5_takesBelief_55 : decode cX5_takesBelief 55 = .ok (.aload_n 0, 1) := by decide +kernel
theorem dX5_takesBelief_56 : decode cX5_takesBelief 56 = .ok (.getfield 13, 3) := by decide +kernel
theorem dX5_takesBelief_59 : decode cX5_takesBelief 59 = .ok (.iconst 5, 1) := by decide +kernel
theorem dX5_takesBelief_60 : decode cX5_takesBelief 60 = .ok (.iload_n 3, 1) := by decide +kernel
theorem dX5_takesBelief_61 : decode cX5_takesBelief 61 = .ok (.bipush (-4), 2) := by decide +kernel
theorem dX5_takesBelief_63 : decode cX5_takesBelief 63 = .ok (.if_icmp .ne 12, 3) := by decide +kernel
theorem dX5_takesBelief_66 : decode cX5_takesBelief 66 = .ok (.aload_n 0, 1) := by decide +kernel
theorem dX5_takesBelief_67 : decode cX5_takesBelief 67 = .ok (.getfield 13, 3) := by decide +kernel
theorem dX5_takesBelief_70 : decode cX5_takesBelief 70 = .ok (.iconst 5, 1) := by decide +kernel
theorem dX5_takesBelief_71 : decode cX5_takesBelief 71 = .ok (.iaload, 1) := by decide +kernel
theorem dX5_takesBelief_72 : decode cX5_takesBelief 72 = .ok (.goto 4, 3) := by decide +kernel
theorem dX5_takesBelief_75 : decode cX5_takesBelief 75 = .ok (.iload_n 3, 1) := by decide +kernel
theorem dX5_takesBelief_76 : decode cX5_takesBelief 76 = .ok (.iastore, 1) := by decide +kernel
theorem dX5_takesBelief_77 : decode cX5_takesBelief 77 = .ok (.iload_n 3, 1) := by decide +kernel
theorem dX5_takesBelief_78 : decode cX5_takesBelief 78 = .ok (.bipush (-4), 2) := by decide +kernel
theorem dX5_takesBelief_80 : decode cX5_takesBelief 80 = .ok (.if_icmp .eq 7, 3) := by decide +kernel
theorem dX5_takesBelief_83 : decode cX5_takesBelief 83 = .ok (.iconst 1, 1) := by decide +kernel
theorem dX5_takesBelief_84 : decode cX5_takesBelief 84 = .ok (.goto 4, 3) := by decide +kernel
theorem dX5_takesBelief_87 : decode cX5_takesBelief 87 = .ok (.iconst 0, 1) := by decide +kernel
theorem dX5_takesBelief_88 : decode cX5_takesBelief 88 = .ok (.ireturn, 1) := by decide +kernel
theorem dX5_takesLoss_0 : decode cX5_takesLoss 0 = .ok (.aload_n 0, 1) := by decide +kernel
theorem dX5_takesLoss_1 : decode cX5_takesLoss 1 = .ok (.getfield 13, 3) := by decide +kernel
theorem dX5_takesLoss_4 : decode cX5_takesLoss 4 = .ok (.iconst 0, 1) := by decide +kernel
theorem dX5_takesLoss_5 : decode cX5_takesLoss 5 = .ok (.iaload, 1) := by decide +kernel
theorem dX5_takesLoss_6 : decode cX5_takesLoss 6 = .ok (.ifCond .le 30, 3) := by decide +kernel
theorem dX5_takesLoss_9 : decode cX5_takesLoss 9 = .ok (.aload_n 0, 1) := by decide +kernel
theorem dX5_takesLoss_10 : decode cX5_takesLoss 10 = .ok (.aload_n 0, 1) := by decide +kernel
theorem dX5_takesLoss_11 : decode cX5_takesLoss 11 = .ok (.getfield 13, 3) := by decide +kernel
theorem dX5_takesLoss_14 : decode cX5_takesLoss 14 = .ok (.iconst 0, 1) := by decide +kernel
theorem dX5_takesLoss_15 : decode cX5_takesLoss 15 = .ok (.iaload, 1) := by decide +kernel
theorem dX5_takesLoss_16 : decode cX5_takesLoss 16 = .ok (.iconst 1, 1) := by decide +kernel
theorem dX5_takesLoss_17 : decode cX5_takesLoss 17 = .ok (.isub, 1) := by decide +kernel
theorem dX5_takesLoss_18 : decode cX5_takesLoss 18 = .ok (.bipush 10, 2) := by decide +kernel
theorem dX5_takesLoss_20 : decode cX5_takesLoss 20 = .ok (.invokestatic 36, 3) := by decide +kernel
theorem dX5_takesLoss_23 : decode cX5_takesLoss 23 = .ok (.iconst 0, 1) := by decide +kernel
theorem dX5_takesLoss_24 : decode cX5_takesLoss 24 = .ok (.bipush 99, 2) := by decide +kernel
theorem dX5_takesLoss_26 : decode cX5_takesLoss 26 = .ok (.invokevirtual 95, 3) := by decide +kernel
theorem dX5_takesLoss_29 : decode cX5_takesLoss 29 = .ok (.ifCond .eq 7, 3) := by decide +kernel
theorem dX5_takesLoss_32 : decode cX5_takesLoss 32 = .ok (.iconst 1, 1) := by decide +kernel
theorem dX5_takesLoss_33 : decode cX5_takesLoss 33 = .ok (.goto 4, 3) := by decide +kernel
theorem dX5_takesLoss_36 : decode cX5_takesLoss 36 = .ok (.iconst 0, 1) := by decide +kernel
theorem dX5_takesLoss_37 : decode cX5_takesLoss 37 = .ok (.ireturn, 1) := by decide +kernel
theorem dX5_takesItem_0 : decode cX5_takesItem 0 = .ok (.aload_n 0, 1) := by decide +kernel
theorem dX5_takesItem_1 : decode cX5_takesItem 1 = .ok (.invokevirtual 77, 3) := by decide +kernel
theorem dX5_takesItem_4 : decode cX5_takesItem 4 = .ok (.lstore_n 1, 1) := by decide +kernel
theorem dX5_takesItem_5 : decode cX5_takesItem 5 = .ok (.iconst 0, 1) := by decide +kernel
theorem dX5_takesItem_6 : decode cX5_takesItem 6 = .ok (.istore_n 3, 1) := by decide +kernel
theorem dX5_takesItem_7 : decode cX5_takesItem 7 = .ok (.lload_n 1, 1) := by decide +kernel
theorem dX5_takesItem_8 : decode cX5_takesItem 8 = .ok (.ldc2_w 98, 3) := by decide +kernel
theorem dX5_takesItem_11 : decode cX5_takesItem 11 = .ok (.lcmp, 1) := by decide +kernel
theorem dX5_takesItem_12 : decode cX5_takesItem 12 = .ok (.ifCond .ne 11, 3) := by decide +kernel
theorem dX5_takesItem_15 : decode cX5_takesItem 15 = .ok (.aload_n 0, 1) := by decide +kernel
theorem dX5_takesItem_16 : decode cX5_takesItem 16 = .ok (.invokevirtual 28, 3) := by decide +kernel
theorem dX5_takesItem_19 : decode cX5_takesItem 19 = .ok (.istore_n 3, 1) := by decide +kernel
theorem dX5_takesItem_20 : decode cX5_takesItem 20 = .ok (.goto 135, 3) := by decide +kernel
theorem dX5_takesItem_23 : decode cX5_takesItem 23 = .ok (.lload_n 1, 1) := by decide +kernel
theorem dX5_takesItem_24 : decode cX5_takesItem 24 = .ok (.ldc2_w 100, 3) := by decide +kernel
theorem dX5_takesItem_27 : decode cX5_takesItem 27 = .ok (.lcmp, 1) := by decide +kernel
theorem dX5_takesItem_28 : decode cX5_takesItem 28 = .ok (.ifCond .ne 11, 3) := by decide +kernel
theorem dX5_takesItem_31 : decode cX5_takesItem 31 = .ok (.aload_n 0, 1) := by decide +kernel
theorem dX5_takesItem_32 : decode cX5_takesItem 32 = .ok (.invokevirtual 102, 3) := by decide +kernel
theorem dX5_takesItem_35 : decode cX5_takesItem 35 = .ok (.istore_n 3, 1) := by decide +kernel
theorem dX5_takesItem_36 : decode cX5_takesItem 36 = .ok (.goto 119, 3) := by decide +kernel
theorem dX5_takesItem_39 : decode cX5_takesItem 39 = .ok (.lload_n 1, 1) := by decide +kernel
theorem dX5_takesItem_40 : decode cX5_takesItem 40 = .ok (.ldc2_w 105, 3) := by decide +kernel
theorem dX5_takesItem_43 : decode cX5_takesItem 43 = .ok (.lcmp, 1) := by decide +kernel
theorem dX5_takesItem_44 : decode cX5_takesItem 44 = .ok (.ifCond .ne 11, 3) := by decide +kernel
theorem dX5_takesItem_47 : decode cX5_takesItem 47 = .ok (.aload_n 0, 1) := by decide +kernel
theorem dX5_takesItem_48 : decode cX5_takesItem 48 = .ok (.invokevirtual 107, 3) := by decide +kernel
theorem dX5_takesItem_51 : decode cX5_takesItem 51 = .ok (.istore_n 3, 1) := by decide +kernel
theorem dX5_takesItem_52 : decode cX5_takesItem 52 = .ok (.goto 103, 3) := by decide +kernel
theorem dX5_takesItem_55 : decode cX5_takesItem 55 = .ok (.lload_n 1, 1) := by decide +kernel
theorem dX5_takesItem_56 : decode cX5_takesItem 56 = .ok (.ldc2_w 110, 3) := by decide +kernel
theorem dX5_takesItem_59 : decode cX5_takesItem 59 = .ok (.lcmp, 1) := by decide +kernel
theorem dX5_takesItem_60 : decode cX5_takesItem 60 = .ok (.ifCond .ne 17, 3) := by decide +kernel
theorem dX5_takesItem_63 : decode cX5_takesItem 63 = .ok (.aload_n 0, 1) := by decide +kernel
theorem dX5_takesItem_64 : decode cX5_takesItem 64 = .ok (.iconst 2, 1) := by decide +kernel
theorem dX5_takesItem_65 : decode cX5_takesItem 65 = .ok (.bipush 20, 2) := by decide +kernel
theorem dX5_takesItem_67 : decode cX5_takesItem 67 = .ok (.sipush 200, 3) := by decide +kernel
theorem dX5_takesItem_70 : decode cX5_takesItem 70 = .ok (.invokevirtual 95, 3) := by decide +kernel
theorem dX5_takesItem_73 : decode cX5_takesItem 73 = .ok (.istore_n 3, 1) := by decide +kernel
theorem dX5_takesItem_74 : decode cX5_takesItem 74 = .ok (.goto 81, 3) := by decide +kernel
theorem dX5_takesItem_77 : decode cX5_takesItem 77 = .ok (.lload_n 1, 1) := by decide +kernel
theorem dX5_takesItem_78 : decode cX5_takesItem 78 = .ok (.ldc2_w 112, 3) := by decide +kernel
theorem dX5_takesItem_81 : decode cX5_takesItem 81 = .ok (.lcmp, 1) := by decide +kernel
theorem dX5_takesItem_82 : decode cX5_takesItem 82 = .ok (.ifCond .ne 18, 3) := by decide +kernel
theorem dX5_takesItem_85 : decode cX5_takesItem 85 = .ok (.aload_n 0, 1) := by decide +kernel
theorem dX5_takesItem_86 : decode cX5_takesItem 86 = .ok (.iconst 3, 1) := by decide +kernel
theorem dX5_takesItem_87 : decode cX5_takesItem 87 = .ok (.sipush 200, 3) := by decide +kernel
theorem dX5_takesItem_90 : decode cX5_takesItem 90 = .ok (.sipush 999, 3) := by decide +kernel
theorem dX5_takesItem_93 : decode cX5_takesItem 93 = .ok (.invokevirtual 95, 3) := by decide +kernel
theorem dX5_takesItem_96 : decode cX5_takesItem 96 = .ok (.istore_n 3, 1) := by decide +kernel
theorem dX5_takesItem_97 : decode cX5_takesItem 97 = .ok (.goto 58, 3) := by decide +kernel
theorem dX5_takesItem_100 : decode cX5_takesItem 100 = .ok (.lload_n 1, 1) := by decide +kernel
theorem dX5_takesItem_101 : decode cX5_takesItem 101 = .ok (.ldc2_w 114, 3) := by decide +kernel
theorem dX5_takesItem_104 : decode cX5_takesItem 104 = .ok (.lcmp, 1) := by decide +kernel
theorem dX5_takesItem_105 : decode cX5_takesItem 105 = .ok (.ifCond .ne 15, 3) := by decide +kernel
theorem dX5_takesItem_108 : decode cX5_takesItem 108 = .ok (.aload_n 0, 1) := by decide +kernel
theorem dX5_takesItem_109 : decode cX5_takesItem 109 = .ok (.iconst 4, 1) := by decide +kernel
theorem dX5_takesItem_110 : decode cX5_takesItem 110 = .ok (.iconst 1, 1) := by decide +kernel
theorem dX5_takesItem_111 : decode cX5_takesItem 111 = .ok (.bipush 99, 2) := by decide +kernel
theorem dX5_takesItem_113 : decode cX5_takesItem 113 = .ok (.invokevirtual 95, 3) := by decide +kernel
theorem dX5_takesItem_116 : decode cX5_takesItem 116 = .ok (.istore_n 3, 1) := by decide +kernel
theorem dX5_takesItem_117 : decode cX5_takesItem 117 = .ok (.goto 38, 3) := by decide +kernel
theorem dX5_takesItem_120 : decode cX5_takesItem 120 = .ok (.lload_n 1, 1) := by decide +kernel
theorem dX5_takesItem_121 : decode cX5_takesItem 121 = .ok (.ldc2_w 116, 3) := by decide +kernel
theorem dX5_takesItem_124 : decode cX5_takesItem 124 = .ok (.lcmp, 1) := by decide +kernel
theorem dX5_takesItem_125 : decode cX5_takesItem 125 = .ok (.ifCond .ne 11, 3) := by decide +kernel
theorem dX5_takesItem_128 : decode cX5_takesItem 128 = .ok (.aload_n 0, 1) := by decide +kernel
theorem dX5_takesItem_129 : decode cX5_takesItem 129 = .ok (.invokevirtual 118, 3) := by decide +kernel
theorem dX5_takesItem_132 : decode cX5_takesItem 132 = .ok (.istore_n 3, 1) := by decide +kernel
theorem dX5_takesItem_133 : decode cX5_takesItem 133 = .ok (.goto 22, 3) := by decide +kernel
theorem dX5_takesItem_136 : decode cX5_takesItem 136 = .ok (.lload_n 1, 1) := by decide +kernel
theorem dX5_takesItem_137 : decode cX5_takesItem 137 = .ok (.ldc2_w 121, 3) := by decide +kernel
theorem dX5_takesItem_140 : decode cX5_takesItem 140 = .ok (.lcmp, 1) := by decide +kernel
theorem dX5_takesItem_141 : decode cX5_takesItem 141 = .ok (.ifCond .ne 14, 3) := by decide +kernel
theorem dX5_takesItem_144 : decode cX5_takesItem 144 = .ok (.aload_n 0, 1) := by decide +kernel
theorem dX5_takesItem_145 : decode cX5_takesItem 145 = .ok (.bipush 6, 2) := by decide +kernel
theorem dX5_takesItem_147 : decode cX5_takesItem 147 = .ok (.iconst 0, 1) := by decide +kernel
theorem dX5_takesItem_148 : decode cX5_takesItem 148 = .ok (.sipush 9999, 3) := by decide +kernel
theorem dX5_takesItem_151 : decode cX5_takesItem 151 = .ok (.invokevirtual 95, 3) := by decide +kernel
theorem dX5_takesItem_154 : decode cX5_takesItem 154 = .ok (.istore_n 3, 1) := by decide +kernel
theorem dX5_takesItem_155 : decode cX5_takesItem 155 = .ok (.iload_n 3, 1) := by decide +kernel
theorem dX5_takesItem_156 : decode cX5_takesItem 156 = .ok (.ifCond .eq 16, 3) := by decide +kernel
theorem dX5_takesItem_159 : decode cX5_takesItem 159 = .ok (.aload_n 0, 1) := by decide +kernel
theorem dX5_takesItem_160 : decode cX5_takesItem 160 = .ok (.bipush 59, 2) := by decide +kernel
theorem dX5_takesItem_162 : decode cX5_takesItem 162 = .ok (.invokevirtual 70, 3) := by decide +kernel
theorem dX5_takesItem_165 : decode cX5_takesItem 165 = .ok (.ifCond .eq 7, 3) := by decide +kernel
theorem dX5_takesItem_168 : decode cX5_takesItem 168 = .ok (.iconst 1, 1) := by decide +kernel
theorem dX5_takesItem_169 : decode cX5_takesItem 169 = .ok (.goto 4, 3) := by decide +kernel
theorem dX5_takesItem_172 : decode cX5_takesItem 172 = .ok (.iconst 0, 1) := by decide +kernel
theorem dX5_takesItem_173 : decode cX5_takesItem 173 = .ok (.ireturn, 1) := by decide +kernel
theorem dX5_reads_0 : decode cX5_reads 0 = .ok (.aload_n 0, 1) := by decide +kernel
theorem dX5_reads_1 : decode cX5_reads 1 = .ok (.invokevirtual 25, 3) := by decide +kernel
theorem dX5_reads_4 : decode cX5_reads 4 = .ok (.aload_n 0, 1) := by decide +kernel
theorem dX5_reads_5 : decode cX5_reads 5 = .ok (.iconst 0, 1) := by decide +kernel
theorem dX5_reads_6 : decode cX5_reads 6 = .ok (.putfield 51, 3) := by decide +kernel
theorem dX5_reads_9 : decode cX5_reads 9 = .ok (.aload_n 0, 1) := by decide +kernel
theorem dX5_reads_10 : decode cX5_reads 10 = .ok (.getfield 51, 3) := by decide +kernel
theorem dX5_reads_13 : decode cX5_reads 13 = .ok (.aload_n 0, 1) := by decide +kernel
theorem dX5_reads_14 : decode cX5_reads 14 = .ok (.getfield 54, 3) := by decide +kernel
theorem dX5_reads_17 : decode cX5_reads 17 = .ok (.if_icmp .ge 20, 3) := by decide +kernel
theorem dX5_reads_20 : decode cX5_reads 20 = .ok (.aload_n 0, 1) := by decide +kernel
theorem dX5_reads_21 : decode cX5_reads 21 = .ok (.getfield 51, 3) := by decide +kernel
theorem dX5_reads_24 : decode cX5_reads 24 = .ok (.istore_n 1, 1) := by decide +kernel
theorem dX5_reads_25 : decode cX5_reads 25 = .ok (.aload_n 0, 1) := by decide +kernel
theorem dX5_reads_26 : decode cX5_reads 26 = .ok (.invokevirtual 123, 3) := by decide +kernel
theorem dX5_reads_29 : decode cX5_reads 29 = .ok (.ifCond .ne 5, 3) := by decide +kernel
theorem dX5_reads_32 : decode cX5_reads 32 = .ok (.iload_n 1, 1) := by decide +kernel
theorem dX5_reads_33 : decode cX5_reads 33 = .ok (.ireturn, 1) := by decide +kernel
theorem dX5_reads_34 : decode cX5_reads 34 = .ok (.goto (-25), 3) := by decide +kernel
theorem dX5_reads_37 : decode cX5_reads 37 = .ok (.bipush (-4), 2) := by decide +kernel
theorem dX5_reads_39 : decode cX5_reads 39 = .ok (.ireturn, 1) := by decide +kernel
theorem dX5_write_0 : decode cX5_write 0 = .ok (.iload_n 1, 1) := by decide +kernel
theorem dX5_write_1 : decode cX5_write 1 = .ok (.bipush 32, 2) := by decide +kernel
theorem dX5_write_3 : decode cX5_write 3 = .ok (.bipush 126, 2) := by decide +kernel
theorem dX5_write_5 : decode cX5_write 5 = .ok (.invokestatic 57, 3) := by decide +kernel
theorem dX5_write_8 : decode cX5_write 8 = .ok (.ifCond .ne 5, 3) := by decide +kernel
theorem dX5_write_11 : decode cX5_write 11 = .ok (.iconst (-1), 1) := by decide +kernel
theorem dX5_write_12 : decode cX5_write 12 = .ok (.ireturn, 1) := by decide +kernel
theorem dX5_write_13 : decode cX5_write 13 = .ok (.aload_n 0, 1) := by decide +kernel
theorem dX5_write_14 : decode cX5_write 14 = .ok (.getfield 54, 3) := by decide +kernel
theorem dX5_write_17 : decode cX5_write 17 = .ok (.sipush 240, 3) := by decide +kernel
theorem dX5_write_20 : decode cX5_write 20 = .ok (.if_icmp .ne 6, 3) := by decide +kernel
theorem dX5_write_23 : decode cX5_write 23 = .ok (.bipush (-3), 2) := by decide +kernel
theorem dX5_write_25 : decode cX5_write 25 = .ok (.ireturn, 1) := by decide +kernel
theorem dX5_write_26 : decode cX5_write 26 = .ok (.aload_n 0, 1) := by decide +kernel
theorem dX5_write_27 : decode cX5_write 27 = .ok (.getfield 22, 3) := by decide +kernel
theorem dX5_write_30 : decode cX5_write 30 = .ok (.aload_n 0, 1) := by decide +kernel
theorem dX5_write_31 : decode cX5_write 31 = .ok (.getfield 54, 3) := by decide +kernel
theorem dX5_write_34 : decode cX5_write 34 = .ok (.iload_n 1, 1) := by decide +kernel
theorem dX5_write_35 : decode cX5_write 35 = .ok (.iastore, 1) := by decide +kernel
theorem dX5_write_36 : decode cX5_write 36 = .ok (.aload_n 0, 1) := by decide +kernel
theorem dX5_write_37 : decode cX5_write 37 = .ok (.dup, 1) := by decide +kernel
theorem dX5_write_38 : decode cX5_write 38 = .ok (.getfield 54, 3) := by decide +kernel
theorem dX5_write_41 : decode cX5_write 41 = .ok (.iconst 1, 1) := by decide +kernel
theorem dX5_write_42 : decode cX5_write 42 = .ok (.iadd, 1) := by decide +kernel
theorem dX5_write_43 : decode cX5_write 43 = .ok (.putfield 54, 3) := by decide +kernel
theorem dX5_write_46 : decode cX5_write 46 = .ok (.aload_n 0, 1) := by decide +kernel
theorem dX5_write_47 : decode cX5_write 47 = .ok (.getfield 54, 3) := by decide +kernel
theorem dX5_write_50 : decode cX5_write 50 = .ok (.ireturn, 1) := by decide +kernel
theorem dX5_wipe_0 : decode cX5_wipe 0 = .ok (.aload_n 0, 1) := by decide +kernel
theorem dX5_wipe_1 : decode cX5_wipe 1 = .ok (.getfield 54, 3) := by decide +kernel
theorem dX5_wipe_4 : decode cX5_wipe 4 = .ok (.istore_n 1, 1) := by decide +kernel
theorem dX5_wipe_5 : decode cX5_wipe 5 = .ok (.aload_n 0, 1) := by decide +kernel
theorem dX5_wipe_6 : decode cX5_wipe 6 = .ok (.iconst 0, 1) := by decide +kernel
theorem dX5_wipe_7 : decode cX5_wipe 7 = .ok (.putfield 54, 3) := by decide +kernel
theorem dX5_wipe_10 : decode cX5_wipe 10 = .ok (.iload_n 1, 1) := by decide +kernel
theorem dX5_wipe_11 : decode cX5_wipe 11 = .ok (.ireturn, 1) := by decide +kernel
theorem dX5_fault_0 : decode cX5_fault 0 = .ok (.aload_n 0, 1) := by decide +kernel
theorem dX5_fault_1 : decode cX5_fault 1 = .ok (.invokevirtual 126, 3) := by decide +kernel
theorem dX5_fault_4 : decode cX5_fault 4 = .ok (.ireturn, 1) := by decide +kernel
theorem dX5_lay_0 : decode cX5_lay 0 = .ok (.aload_n 0, 1) := by decide +kernel
theorem dX5_lay_1 : decode cX5_lay 1 = .ok (.invokevirtual 126, 3) := by decide +kernel
theorem dX5_lay_4 : decode cX5_lay 4 = .ok (.bipush (-4), 2) := by decide +kernel
theorem dX5_lay_6 : decode cX5_lay 6 = .ok (.if_icmp .ne 12, 3) := by decide +kernel
theorem dX5_lay_9 : decode cX5_lay 9 = .ok (.aload_n 0, 1) := by decide +kernel
theorem dX5_lay_10 : decode cX5_lay 10 = .ok (.getfield 13, 3) := by decide +kernel
theorem dX5_lay_13 : decode cX5_lay 13 = .ok (.iconst 0, 1) := by decide +kernel
theorem dX5_lay_14 : decode cX5_lay 14 = .ok (.iaload, 1) := by decide +kernel
theorem dX5_lay_15 : decode cX5_lay 15 = .ok (.ifCond .ne 6, 3) := by decide +kernel
theorem dX5_lay_18 : decode cX5_lay 18 = .ok (.bipush (-2), 2) := by decide +kernel
theorem dX5_lay_20 : decode cX5_lay 20 = .ok (.ireturn, 1) := by decide +kernel
theorem dX5_lay_21 : decode cX5_lay 21 = .ok (.aload_n 0, 1) := by decide +kernel
theorem dX5_lay_22 : decode cX5_lay 22 = .ok (.invokevirtual 40, 3) := by decide +kernel
theorem dX5_lay_25 : decode cX5_lay 25 = .ok (.aload_n 0, 1) := by decide +kernel
theorem dX5_lay_26 : decode cX5_lay 26 = .ok (.getfield 7, 3) := by decide +kernel
theorem dX5_lay_29 : decode cX5_lay 29 = .ok (.iconst 0, 1) := by decide +kernel
theorem dX5_lay_30 : decode cX5_lay 30 = .ok (.iaload, 1) := by decide +kernel
theorem dX5_lay_31 : decode cX5_lay 31 = .ok (.ireturn, 1) := by decide +kernel
theorem dX5_drawn_0 : decode cX5_drawn 0 = .ok (.ldc2_w 130, 3) := by decide +kernel
theorem dX5_drawn_3 : decode cX5_drawn 3 = .ok (.aload_n 0, 1) := by decide +kernel
theorem dX5_drawn_4 : decode cX5_drawn 4 = .ok (.bipush 6, 2) := by decide +kernel
theorem dX5_drawn_6 : decode cX5_drawn 6 = .ok (.iaload, 1) := by decide +kernel
theorem dX5_drawn_7 : decode cX5_drawn 7 = .ok (.i2l, 1) := by decide +kernel
theorem dX5_drawn_8 : decode cX5_drawn 8 = .ok (.lmul, 1) := by decide +kernel
theorem dX5_drawn_9 : decode cX5_drawn 9 = .ok (.ldc2_w 132, 3) := by decide +kernel
theorem dX5_drawn_12 : decode cX5_drawn 12 = .ok (.iload_n 1, 1) := by decide +kernel
theorem dX5_drawn_13 : decode cX5_drawn 13 = .ok (.i2l, 1) := by decide +kernel
theorem dX5_drawn_14 : decode cX5_drawn 14 = .ok (.lmul, 1) := by decide +kernel
theorem dX5_drawn_15 : decode cX5_drawn 15 = .ok (.ladd, 1) := by decide +kernel
theorem dX5_drawn_16 : decode cX5_drawn 16 = .ok (.ldc2_w 134, 3) := by decide +kernel
theorem dX5_drawn_19 : decode cX5_drawn 19 = .ok (.iload_n 2, 1) := by decide +kernel
theorem dX5_drawn_20 : decode cX5_drawn 20 = .ok (.i2l, 1) := by decide +kernel
theorem dX5_drawn_21 : decode cX5_drawn 21 = .ok (.lmul, 1) := by decide +kernel
theorem dX5_drawn_22 : decode cX5_drawn 22 = .ok (.ladd, 1) := by decide +kernel
theorem dX5_drawn_23 : decode cX5_drawn 23 = .ok (.lconst 1, 1) := by decide +kernel
theorem dX5_drawn_24 : decode cX5_drawn 24 = .ok (.ladd, 1) := by decide +kernel
theorem dX5_drawn_25 : decode cX5_drawn 25 = .ok (.lstore_n 3, 1) := by decide +kernel
theorem dX5_drawn_26 : decode cX5_drawn 26 = .ok (.lload_n 3, 1) := by decide +kernel
theorem dX5_drawn_27 : decode cX5_drawn 27 = .ok (.lload_n 3, 1) := by decide +kernel
theorem dX5_drawn_28 : decode cX5_drawn 28 = .ok (.lmul, 1) := by decide +kernel
theorem dX5_drawn_29 : decode cX5_drawn 29 = .ok (.ldc2_w 136, 3) := by decide +kernel
theorem dX5_drawn_32 : decode cX5_drawn 32 = .ok (.lrem, 1) := by decide +kernel
theorem dX5_drawn_33 : decode cX5_drawn 33 = .ok (.l2i, 1) := by decide +kernel
theorem dX5_drawn_34 : decode cX5_drawn 34 = .ok (.ireturn, 1) := by decide +kernel
theorem dX5_dropper_0 : decode cX5_dropper 0 = .ok (.iconst 0, 1) := by decide +kernel
theorem dX5_dropper_1 : decode cX5_dropper 1 = .ok (.istore_n 3, 1) := by decide +kernel
theorem dX5_dropper_2 : decode cX5_dropper 2 = .ok (.iload_n 3, 1) := by decide +kernel
theorem dX5_dropper_3 : decode cX5_dropper 3 = .ok (.aload_n 0, 1) := by decide +kernel
theorem dX5_dropper_4 : decode cX5_dropper 4 = .ok (.iload_n 1, 1) := by decide +kernel
theorem dX5_dropper_5 : decode cX5_dropper 5 = .ok (.bipush 11, 2) := by decide +kernel
theorem dX5_dropper_7 : decode cX5_dropper 7 = .ok (.invokestatic 36, 3) := by decide +kernel
theorem dX5_dropper_10 : decode cX5_dropper 10 = .ok (.iaload, 1) := by decide +kernel
theorem dX5_dropper_11 : decode cX5_dropper 11 = .ok (.if_icmp .ge 23, 3) := by decide +kernel
theorem dX5_dropper_14 : decode cX5_dropper 14 = .ok (.aload_n 0, 1) := by decide +kernel
theorem dX5_dropper_15 : decode cX5_dropper 15 = .ok (.iload_n 1, 1) := by decide +kernel
theorem dX5_dropper_16 : decode cX5_dropper 16 = .ok (.bipush 12, 2) := by decide +kernel
theorem dX5_dropper_18 : decode cX5_dropper 18 = .ok (.iload_n 3, 1) := by decide +kernel
theorem dX5_dropper_19 : decode cX5_dropper 19 = .ok (.iadd, 1) := by decide +kernel
theorem dX5_dropper_20 : decode cX5_dropper 20 = .ok (.invokestatic 36, 3) := by decide +kernel
theorem dX5_dropper_23 : decode cX5_dropper 23 = .ok (.iaload, 1) := by decide +kernel
theorem dX5_dropper_24 : decode cX5_dropper 24 = .ok (.iload_n 2, 1) := by decide +kernel
theorem dX5_dropper_25 : decode cX5_dropper 25 = .ok (.if_icmp .lt 9, 3) := by decide +kernel
theorem dX5_dropper_28 : decode cX5_dropper 28 = .ok (.iinc 3 1, 3) := by decide +kernel
theorem dX5_dropper_31 : decode cX5_dropper 31 = .ok (.goto (-29), 3) := by decide +kernel
theorem dX5_dropper_34 : decode cX5_dropper 34 = .ok (.iload_n 3, 1) := by decide +kernel
theorem dX5_dropper_35 : decode cX5_dropper 35 = .ok (.aload_n 0, 1) := by decide +kernel
theorem dX5_dropper_36 : decode cX5_dropper 36 = .ok (.iload_n 1, 1) := by decide +kernel
theorem dX5_dropper_37 : decode cX5_dropper 37 = .ok (.bipush 11, 2) := by decide +kernel
theorem dX5_dropper_39 : decode cX5_dropper 39 = .ok (.invokestatic 36, 3) := by decide +kernel
theorem dX5_dropper_42 : decode cX5_dropper 42 = .ok (.iaload, 1) := by decide +kernel
theorem dX5_dropper_43 : decode cX5_dropper 43 = .ok (.if_icmp .ge 7, 3) := by decide +kernel
theorem dX5_dropper_46 : decode cX5_dropper 46 = .ok (.iload_n 3, 1) := by decide +kernel
theorem dX5_dropper_47 : decode cX5_dropper 47 = .ok (.goto 5, 3) := by decide +kernel
theorem dX5_dropper_50 : decode cX5_dropper 50 = .ok (.bipush (-4), 2) := by decide +kernel
theorem dX5_dropper_52 : decode cX5_dropper 52 = .ok (.ireturn, 1) := by decide +kernel
theorem dX5_met_0 : decode cX5_met 0 = .ok (.aload_n 0, 1) := by decide +kernel
theorem dX5_met_1 : decode cX5_met 1 = .ok (.iload_n 1, 1) := by decide +kernel
theorem dX5_met_2 : decode cX5_met 2 = .ok (.iload_n 2, 1) := by decide +kernel
theorem dX5_met_3 : decode cX5_met 3 = .ok (.invokestatic 138, 3) := by decide +kernel
theorem dX5_met_6 : decode cX5_met 6 = .ok (.istore_n 3, 1) := by decide +kernel
theorem dX5_met_7 : decode cX5_met 7 = .ok (.iload_n 3, 1) := by decide +kernel
theorem dX5_met_8 : decode cX5_met 8 = .ok (.bipush (-4), 2) := by decide +kernel
theorem dX5_met_10 : decode cX5_met 10 = .ok (.if_icmp .ne 5, 3) := by decide +kernel
theorem dX5_met_13 : decode cX5_met 13 = .ok (.iconst 0, 1) := by decide +kernel
theorem dX5_met_14 : decode cX5_met 14 = .ok (.ireturn, 1) := by decide +kernel
theorem dX5_met_15 : decode cX5_met 15 = .ok (.aload_n 0, 1) := by decide +kernel
theorem dX5_met_16 : decode cX5_met 16 = .ok (.iload_n 1, 1) := by decide +kernel
theorem dX5_met_17 : decode cX5_met 17 = .ok (.bipush 12, 2) := by decide +kernel
theorem dX5_met_19 : decode cX5_met 19 = .ok (.iload_n 3, 1) := by decide +kernel
theorem dX5_met_20 : decode cX5_met 20 = .ok (.iadd, 1) := by decide +kernel
theorem dX5_met_21 : decode cX5_met 21 = .ok (.invokestatic 36, 3) := by decide +kernel
theorem dX5_met_24 : decode cX5_met 24 = .ok (.iaload, 1) := by decide +kernel
theorem dX5_met_25 : decode cX5_met 25 = .ok (.istore 4, 2) := by decide +kernel
theorem dX5_met_27 : decode cX5_met 27 = .ok (.aload_n 0, 1) := by decide +kernel
theorem dX5_met_28 : decode cX5_met 28 = .ok (.iload_n 1, 1) := by decide +kernel
theorem dX5_met_29 : decode cX5_met 29 = .ok (.bipush 18, 2) := by decide +kernel
theorem dX5_met_31 : decode cX5_met 31 = .ok (.iload_n 3, 1) := by decide +kernel
theorem dX5_met_32 : decode cX5_met 32 = .ok (.iadd, 1) := by decide +kernel
theorem dX5_met_33 : decode cX5_met 33 = .ok (.invokestatic 36, 3) := by decide +kernel
theorem dX5_met_36 : decode cX5_met 36 = .ok (.iaload, 1) := by decide +kernel
theorem dX5_met_37 : decode cX5_met 37 = .ok (.tableswitch 50 0 2 #[27, 32, 44], 27) := by decide +kernel
theorem dX5_met_64 : decode cX5_met 64 = .ok (.iconst 2, 1) := by decide +kernel
theorem dX5_met_65 : decode cX5_met 65 = .ok (.iload 4, 2) := by decide +kernel
theorem dX5_met_67 : decode cX5_met 67 = .ok (.iadd, 1) := by decide +kernel
theorem dX5_met_68 : decode cX5_met 68 = .ok (.ireturn, 1) := by decide +kernel
theorem dX5_met_69 : decode cX5_met 69 = .ok (.iconst 2, 1) := by decide +kernel
theorem dX5_met_70 : decode cX5_met 70 = .ok (.iconst 0, 1) := by decide +kernel
theorem dX5_met_71 : decode cX5_met 71 = .ok (.iload 4, 2) := by decide +kernel
theorem dX5_met_73 : decode cX5_met 73 = .ok (.bipush 40, 2) := by decide +kernel
theorem dX5_met_75 : decode cX5_met 75 = .ok (.isub, 1) := by decide +kernel
theorem dX5_met_76 : decode cX5_met 76 = .ok (.invokestatic 142, 3) := by decide +kernel
theorem dX5_met_79 : decode cX5_met 79 = .ok (.iadd, 1) := by decide +kernel
theorem dX5_met_80 : decode cX5_met 80 = .ok (.ireturn, 1) := by decide +kernel
theorem dX5_met_81 : decode cX5_met 81 = .ok (.iconst 2, 1) := by decide +kernel
theorem dX5_met_82 : decode cX5_met 82 = .ok (.iload_n 2, 1) := by decide +kernel
theorem dX5_met_83 : decode cX5_met 83 = .ok (.iconst 2, 1) := by decide +kernel
theorem dX5_met_84 : decode cX5_met 84 = .ok (.idiv, 1) := by decide +kernel
theorem dX5_met_85 : decode cX5_met 85 = .ok (.iadd, 1) := by decide +kernel
theorem dX5_met_86 : decode cX5_met 86 = .ok (.ireturn, 1) := by decide +kernel
theorem dX5_met_87 : decode cX5_met 87 = .ok (.iconst 1, 1) := by decide +kernel
theorem dX5_met_88 : decode cX5_met 88 = .ok (.ireturn, 1) := by decide +kernel
theorem dX5_isBelieved_0 : decode cX5_isBelieved 0 = .ok (.aload_n 0, 1) := by decide +kernel
theorem dX5_isBelieved_1 : decode cX5_isBelieved 1 = .ok (.iconst 5, 1) := by decide +kernel
theorem dX5_isBelieved_2 : decode cX5_isBelieved 2 = .ok (.iaload, 1) := by decide +kernel
theorem dX5_isBelieved_3 : decode cX5_isBelieved 3 = .ok (.ifCond .eq 22, 3) := by decide +kernel
theorem dX5_isBelieved_6 : decode cX5_isBelieved 6 = .ok (.aload_n 0, 1) := by decide +kernel
theorem dX5_isBelieved_7 : decode cX5_isBelieved 7 = .ok (.iconst 5, 1) := by decide +kernel
theorem dX5_isBelieved_8 : decode cX5_isBelieved 8 = .ok (.iaload, 1) := by decide +kernel
theorem dX5_isBelieved_9 : decode cX5_isBelieved 9 = .ok (.iconst 1, 1) := by decide +kernel
theorem dX5_isBelieved_10 : decode cX5_isBelieved 10 = .ok (.if_icmp .ne 19, 3) := by decide +kernel
theorem dX5_isBelieved_13 : decode cX5_isBelieved 13 = .ok (.iload_n 1, 1) := by decide +kernel
theorem dX5_isBelieved_14 : decode cX5_isBelieved 14 = .ok (.aload_n 0, 1) := by decide +kernel
theorem dX5_isBelieved_15 : decode cX5_isBelieved 15 = .ok (.iconst 2, 1) := by decide +kernel
theorem dX5_isBelieved_16 : decode cX5_isBelieved 16 = .ok (.iaload, 1) := by decide +kernel
theorem dX5_isBelieved_17 : decode cX5_isBelieved 17 = .ok (.if_icmp .lt 12, 3) := by decide +kernel
theorem dX5_isBelieved_20 : decode cX5_isBelieved 20 = .ok (.iload_n 1, 1) := by decide +kernel
theorem dX5_isBelieved_21 : decode cX5_isBelieved 21 = .ok (.iload_n 2, 1) := by decide +kernel
theorem dX5_isBelieved_22 : decode cX5_isBelieved 22 = .ok (.if_icmp .ge 7, 3) := by decide +kernel
theorem dX5_isBelieved_25 : decode cX5_isBelieved 25 = .ok (.iconst 1, 1) := by decide +kernel
theorem dX5_isBelieved_26 : decode cX5_isBelieved 26 = .ok (.goto 4, 3) := by decide +kernel
theorem dX5_isBelieved_29 : decode cX5_isBelieved 29 = .ok (.iconst 0, 1) := by decide +kernel
theorem dX5_isBelieved_30 : decode cX5_isBelieved 30 = .ok (.ireturn, 1) := by decide +kernel
theorem dX5_sends_0 : decode cX5_sends 0 = .ok (.aload_n 1, 1) := by decide +kernel
theorem dX5_sends_1 : decode cX5_sends 1 = .ok (.iload_n 2, 1) := by decide +kernel
theorem dX5_sends_2 : decode cX5_sends 2 = .ok (.aload_n 1, 1) := by decide +kernel
theorem dX5_sends_3 : decode cX5_sends 3 = .ok (.iload_n 2, 1) := by decide +kernel
theorem dX5_sends_4 : decode cX5_sends 4 = .ok (.bipush 7, 2) := by decide +kernel
theorem dX5_sends_6 : decode cX5_sends 6 = .ok (.invokestatic 36, 3) := by decide +kernel
theorem dX5_sends_9 : decode cX5_sends 9 = .ok (.iaload, 1) := by decide +kernel
theorem dX5_sends_10 : decode cX5_sends 10 = .ok (.invokestatic 145, 3) := by decide +kernel
theorem dX5_sends_13 : decode cX5_sends 13 = .ok (.bipush 100, 2) := by decide +kernel
theorem dX5_sends_15 : decode cX5_sends 15 = .ok (.irem, 1) := by decide +kernel
theorem dX5_sends_16 : decode cX5_sends 16 = .ok (.aload_n 1, 1) := by decide +kernel
theorem dX5_sends_17 : decode cX5_sends 17 = .ok (.iload_n 2, 1) := by decide +kernel
theorem dX5_sends_18 : decode cX5_sends 18 = .ok (.bipush 10, 2) := by decide +kernel
theorem dX5_sends_20 : decode cX5_sends 20 = .ok (.invokestatic 36, 3) := by decide +kernel
theorem dX5_sends_23 : decode cX5_sends 23 = .ok (.iaload, 1) := by decide +kernel
theorem dX5_sends_24 : decode cX5_sends 24 = .ok (.if_icmp .ge 7, 3) := by decide +kernel
theorem dX5_sends_27 : decode cX5_sends 27 = .ok (.iconst 1, 1) := by decide +kernel
theorem dX5_sends_28 : decode cX5_sends 28 = .ok (.goto 4, 3) := by decide +kernel
theorem dX5_sends_31 : decode cX5_sends 31 = .ok (.iconst 0, 1) := by decide +kernel
theorem dX5_sends_32 : decode cX5_sends 32 = .ok (.istore 4, 2) := by decide +kernel
theorem dX5_sends_34 : decode cX5_sends 34 = .ok (.aload_n 0, 1) := by decide +kernel
theorem dX5_sends_35 : decode cX5_sends 35 = .ok (.iload 4, 2) := by decide +kernel
theorem dX5_sends_37 : decode cX5_sends 37 = .ok (.ifCond .eq 7, 3) := by decide +kernel
theorem dX5_sends_40 : decode cX5_sends 40 = .ok (.iconst 1, 1) := by decide +kernel
theorem dX5_sends_41 : decode cX5_sends 41 = .ok (.goto 9, 3) := by decide +kernel
theorem dX5_sends_44 : decode cX5_sends 44 = .ok (.aload_n 1, 1) := by decide +kernel
theorem dX5_sends_45 : decode cX5_sends 45 = .ok (.iload_n 2, 1) := by decide +kernel
theorem dX5_sends_46 : decode cX5_sends 46 = .ok (.iload_n 3, 1) := by decide +kernel
theorem dX5_sends_47 : decode cX5_sends 47 = .ok (.invokestatic 148, 3) := by decide +kernel
theorem dX5_sends_50 : decode cX5_sends 50 = .ok (.putfield 151, 3) := by decide +kernel
theorem dX5_sends_53 : decode cX5_sends 53 = .ok (.aload_n 0, 1) := by decide +kernel
theorem dX5_sends_54 : decode cX5_sends 54 = .ok (.aload_n 0, 1) := by decide +kernel
theorem dX5_sends_55 : decode cX5_sends 55 = .ok (.getfield 151, 3) := by decide +kernel
theorem dX5_sends_58 : decode cX5_sends 58 = .ok (.iconst 1, 1) := by decide +kernel
theorem dX5_sends_59 : decode cX5_sends 59 = .ok (.if_icmp .le 21, 3) := by decide +kernel
theorem dX5_sends_62 : decode cX5_sends 62 = .ok (.aload_n 1, 1) := by decide +kernel
theorem dX5_sends_63 : decode cX5_sends 63 = .ok (.aload_n 0, 1) := by decide +kernel
theorem dX5_sends_64 : decode cX5_sends 64 = .ok (.getfield 151, 3) := by decide +kernel
theorem dX5_sends_67 : decode cX5_sends 67 = .ok (.iconst 2, 1) := by decide +kernel
theorem dX5_sends_68 : decode cX5_sends 68 = .ok (.isub, 1) := by decide +kernel
theorem dX5_sends_69 : decode cX5_sends 69 = .ok (.iload_n 3, 1) := by decide +kernel
theorem dX5_sends_70 : decode cX5_sends 70 = .ok (.invokestatic 154, 3) := by decide +kernel
theorem dX5_sends_73 : decode cX5_sends 73 = .ok (.ifCond .eq 7, 3) := by decide +kernel
theorem dX5_sends_76 : decode cX5_sends 76 = .ok (.iconst 1, 1) := by decide +kernel
theorem dX5_sends_77 : decode cX5_sends 77 = .ok (.goto 4, 3) := by decide +kernel
theorem dX5_sends_80 : decode cX5_sends 80 = .ok (.iconst 0, 1) := by decide +kernel
theorem dX5_sends_81 : decode cX5_sends 81 = .ok (.putfield 158, 3) := by decide +kernel
theorem dX5_sends_84 : decode cX5_sends 84 = .ok (.aload_n 1, 1) := by decide +kernel
theorem dX5_sends_85 : decode cX5_sends 85 = .ok (.iload_n 2, 1) := by decide +kernel
theorem dX5_sends_86 : decode cX5_sends 86 = .ok (.bipush 7, 2) := by decide +kernel
theorem dX5_sends_88 : decode cX5_sends 88 = .ok (.invokestatic 36, 3) := by decide +kernel
theorem dX5_sends_91 : decode cX5_sends 91 = .ok (.dup2, 1) := by decide +kernel
theorem dX5_sends_92 : decode cX5_sends 92 = .ok (.iaload, 1) := by decide +kernel
theorem dX5_sends_93 : decode cX5_sends 93 = .ok (.iconst 1, 1) := by decide +kernel
theorem dX5_sends_94 : decode cX5_sends 94 = .ok (.iadd, 1) := by decide +kernel
theorem dX5_sends_95 : decode cX5_sends 95 = .ok (.iastore, 1) := by decide +kernel
theorem dX5_sends_96 : decode cX5_sends 96 = .ok (.aload_n 1, 1) := by decide +kernel
theorem dX5_sends_97 : decode cX5_sends 97 = .ok (.iload_n 2, 1) := by decide +kernel
theorem dX5_sends_98 : decode cX5_sends 98 = .ok (.bipush 9, 2) := by decide +kernel
theorem dX5_sends_100 : decode cX5_sends 100 = .ok (.invokestatic 36, 3) := by decide +kernel
theorem dX5_sends_103 : decode cX5_sends 103 = .ok (.dup2, 1) := by decide +kernel
theorem dX5_sends_104 : decode cX5_sends 104 = .ok (.iaload, 1) := by decide +kernel
theorem dX5_sends_105 : decode cX5_sends 105 = .ok (.aload_n 0, 1) := by decide +kernel
theorem dX5_sends_106 : decode cX5_sends 106 = .ok (.getfield 158, 3) := by decide +kernel
theorem dX5_sends_109 : decode cX5_sends 109 = .ok (.ifCond .eq 7, 3) := by decide +kernel
theorem dX5_sends_112 : decode cX5_sends 112 = .ok (.iconst 1, 1) := by decide +kernel
theorem dX5_sends_113 : decode cX5_sends 113 = .ok (.goto 4, 3) := by decide +kernel
theorem dX5_sends_116 : decode cX5_sends 116 = .ok (.iconst 0, 1) := by decide +kernel
theorem dX5_sends_117 : decode cX5_sends 117 = .ok (.iadd, 1) := by decide +kernel
theorem dX5_sends_118 : decode cX5_sends 118 = .ok (.iastore, 1) := by decide +kernel
theorem dX5_sends_119 : decode cX5_sends 119 = .ok (.aload_n 1, 1) := by decide +kernel
theorem dX5_sends_120 : decode cX5_sends 120 = .ok (.iload_n 2, 1) := by decide +kernel
theorem dX5_sends_121 : decode cX5_sends 121 = .ok (.bipush 8, 2) := by decide +kernel
theorem dX5_sends_123 : decode cX5_sends 123 = .ok (.invokestatic 36, 3) := by decide +kernel
theorem dX5_sends_126 : decode cX5_sends 126 = .ok (.dup2, 1) := by decide +kernel
theorem dX5_sends_127 : decode cX5_sends 127 = .ok (.iaload, 1) := by decide +kernel
theorem dX5_sends_128 : decode cX5_sends 128 = .ok (.aload_n 0, 1) := by decide +kernel
theorem dX5_sends_129 : decode cX5_sends 129 = .ok (.invokevirtual 162, 3) := by decide +kernel
theorem dX5_sends_132 : decode cX5_sends 132 = .ok (.ifCond .eq 7, 3) := by decide +kernel
theorem dX5_sends_135 : decode cX5_sends 135 = .ok (.iconst 1, 1) := by decide +kernel
theorem dX5_sends_136 : decode cX5_sends 136 = .ok (.goto 4, 3) := by decide +kernel
theorem dX5_sends_139 : decode cX5_sends 139 = .ok (.iconst 0, 1) := by decide +kernel
theorem dX5_sends_140 : decode cX5_sends 140 = .ok (.iadd, 1) := by decide +kernel
theorem dX5_sends_141 : decode cX5_sends 141 = .ok (.iastore, 1) := by decide +kernel
theorem dX5_sends_142 : decode cX5_sends 142 = .ok (.return_, 1) := by decide +kernel
theorem dX5_isGone_0 : decode cX5_isGone 0 = .ok (.aload_n 0, 1) := by decide +kernel
theorem dX5_isGone_1 : decode cX5_isGone 1 = .ok (.getfield 151, 3) := by decide +kernel
theorem dX5_isGone_4 : decode cX5_isGone 4 = .ok (.ifCond .le 14, 3) := by decide +kernel
theorem dX5_isGone_7 : decode cX5_isGone 7 = .ok (.aload_n 0, 1) := by decide +kernel
theorem dX5_isGone_8 : decode cX5_isGone 8 = .ok (.getfield 158, 3) := by decide +kernel
theorem dX5_isGone_11 : decode cX5_isGone 11 = .ok (.ifCond .ne 7, 3) := by decide +kernel
theorem dX5_isGone_14 : decode cX5_isGone 14 = .ok (.iconst 1, 1) := by decide +kernel
theorem dX5_isGone_15 : decode cX5_isGone 15 = .ok (.goto 4, 3) := by decide +kernel
theorem dX5_isGone_18 : decode cX5_isGone 18 = .ok (.iconst 0, 1) := by decide +kernel
theorem dX5_isGone_19 : decode cX5_isGone 19 = .ok (.ireturn, 1) := by decide +kernel
theorem dX5_feels_0 : decode cX5_feels 0 = .ok (.aload_n 1, 1) := by decide +kernel
theorem dX5_feels_1 : decode cX5_feels 1 = .ok (.iload_n 2, 1) := by decide +kernel
theorem dX5_feels_2 : decode cX5_feels 2 = .ok (.iconst 0, 1) := by decide +kernel
theorem dX5_feels_3 : decode cX5_feels 3 = .ok (.invokestatic 36, 3) := by decide +kernel
theorem dX5_feels_6 : decode cX5_feels 6 = .ok (.iaload, 1) := by decide +kernel
theorem dX5_feels_7 : decode cX5_feels 7 = .ok (.istore_n 3, 1) := by decide +kernel
theorem dX5_feels_8 : decode cX5_feels 8 = .ok (.aload_n 0, 1) := by decide +kernel
theorem dX5_feels_9 : decode cX5_feels 9 = .ok (.aload_n 1, 1) := by decide +kernel
theorem dX5_feels_10 : decode cX5_feels 10 = .ok (.iload_n 2, 1) := by decide +kernel
theorem dX5_feels_11 : decode cX5_feels 11 = .ok (.iload_n 3, 1) := by decide +kernel
theorem dX5_feels_12 : decode cX5_feels 12 = .ok (.invokevirtual 165, 3) := by decide +kernel
theorem dX5_feels_15 : decode cX5_feels 15 = .ok (.aload_n 0, 1) := by decide +kernel
theorem dX5_feels_16 : decode cX5_feels 16 = .ok (.invokevirtual 162, 3) := by decide +kernel
theorem dX5_feels_19 : decode cX5_feels 19 = .ok (.ifCond .eq 73, 3) := by decide +kernel
theorem dX5_feels_22 : decode cX5_feels 22 = .ok (.aload_n 1, 1) := by decide +kernel
theorem dX5_feels_23 : decode cX5_feels 23 = .ok (.iload_n 2, 1) := by decide +kernel
theorem dX5_feels_24 : decode cX5_feels 24 = .ok (.iconst 4, 1) := by decide +kernel
theorem dX5_feels_25 : decode cX5_feels 25 = .ok (.invokestatic 36, 3) := by decide +kernel
theorem dX5_feels_28 : decode cX5_feels 28 = .ok (.dup2, 1) := by decide +kernel
theorem dX5_feels_29 : decode cX5_feels 29 = .ok (.iaload, 1) := by decide +kernel
theorem dX5_feels_30 : decode cX5_feels 30 = .ok (.iconst 1, 1) := by decide +kernel
theorem dX5_feels_31 : decode cX5_feels 31 = .ok (.iadd, 1) := by decide +kernel
theorem dX5_feels_32 : decode cX5_feels 32 = .ok (.iastore, 1) := by decide +kernel
theorem dX5_feels_33 : decode cX5_feels 33 = .ok (.aload_n 1, 1) := by decide +kernel
theorem dX5_feels_34 : decode cX5_feels 34 = .ok (.iload_n 2, 1) := by decide +kernel
theorem dX5_feels_35 : decode cX5_feels 35 = .ok (.iconst 4, 1) := by decide +kernel
theorem dX5_feels_36 : decode cX5_feels 36 = .ok (.invokestatic 36, 3) := by decide +kernel
theorem dX5_feels_39 : decode cX5_feels 39 = .ok (.iaload, 1) := by decide +kernel
theorem dX5_feels_40 : decode cX5_feels 40 = .ok (.iconst 3, 1) := by decide +kernel
theorem dX5_feels_41 : decode cX5_feels 41 = .ok (.if_icmp .ne 50, 3) := by decide +kernel
theorem dX5_feels_44 : decode cX5_feels 44 = .ok (.aload_n 1, 1) := by decide +kernel
theorem dX5_feels_45 : decode cX5_feels 45 = .ok (.iload_n 2, 1) := by decide +kernel
theorem dX5_feels_46 : decode cX5_feels 46 = .ok (.iconst 4, 1) := by decide +kernel
theorem dX5_feels_47 : decode cX5_feels 47 = .ok (.invokestatic 36, 3) := by decide +kernel
theorem dX5_feels_50 : decode cX5_feels 50 = .ok (.iconst 0, 1) := by decide +kernel
theorem dX5_feels_51 : decode cX5_feels 51 = .ok (.iastore, 1) := by decide +kernel
theorem dX5_feels_52 : decode cX5_feels 52 = .ok (.iload_n 3, 1) := by decide +kernel
theorem dX5_feels_53 : decode cX5_feels 53 = .ok (.aload_n 1, 1) := by decide +kernel
theorem dX5_feels_54 : decode cX5_feels 54 = .ok (.iconst 2, 1) := by decide +kernel
theorem dX5_feels_55 : decode cX5_feels 55 = .ok (.iaload, 1) := by decide +kernel
theorem dX5_feels_56 : decode cX5_feels 56 = .ok (.if_icmp .le 35, 3) := by decide +kernel
theorem dX5_feels_59 : decode cX5_feels 59 = .ok (.aload_n 1, 1) := by decide +kernel
theorem dX5_feels_60 : decode cX5_feels 60 = .ok (.iload_n 2, 1) := by decide +kernel
theorem dX5_feels_61 : decode cX5_feels 61 = .ok (.bipush 6, 2) := by decide +kernel
theorem dX5_feels_63 : decode cX5_feels 63 = .ok (.invokestatic 36, 3) := by decide +kernel
theorem dX5_feels_66 : decode cX5_feels 66 = .ok (.dup2, 1) := by decide +kernel
theorem dX5_feels_67 : decode cX5_feels 67 = .ok (.iaload, 1) := by decide +kernel
theorem dX5_feels_68 : decode cX5_feels 68 = .ok (.iconst 1, 1) := by decide +kernel
theorem dX5_feels_69 : decode cX5_feels 69 = .ok (.iadd, 1) := by decide +kernel
theorem dX5_feels_70 : decode cX5_feels 70 = .ok (.iastore, 1) := by decide +kernel
theorem dX5_feels_71 : decode cX5_feels 71 = .ok (.aload_n 1, 1) := by decide +kernel
theorem dX5_feels_72 : decode cX5_feels 72 = .ok (.iload_n 2, 1) := by decide +kernel
theorem dX5_feels_73 : decode cX5_feels 73 = .ok (.iconst 1, 1) := by decide +kernel
theorem dX5_feels_74 : decode cX5_feels 74 = .ok (.invokestatic 36, 3) := by decide +kernel
theorem dX5_feels_77 : decode cX5_feels 77 = .ok (.iload_n 3, 1) := by decide +kernel
theorem dX5_feels_78 : decode cX5_feels 78 = .ok (.iconst 1, 1) := by decide +kernel
theorem dX5_feels_79 : decode cX5_feels 79 = .ok (.isub, 1) := by decide +kernel
theorem dX5_feels_80 : decode cX5_feels 80 = .ok (.iastore, 1) := by decide +kernel
theorem dX5_feels_81 : decode cX5_feels 81 = .ok (.aload_n 1, 1) := by decide +kernel
theorem dX5_feels_82 : decode cX5_feels 82 = .ok (.iload_n 2, 1) := by decide +kernel
theorem dX5_feels_83 : decode cX5_feels 83 = .ok (.iconst 0, 1) := by decide +kernel
theorem dX5_feels_84 : decode cX5_feels 84 = .ok (.invokestatic 36, 3) := by decide +kernel
theorem dX5_feels_87 : decode cX5_feels 87 = .ok (.aload_n 1, 1) := by decide +kernel
theorem dX5_feels_88 : decode cX5_feels 88 = .ok (.iconst 2, 1) := by decide +kernel
theorem dX5_feels_89 : decode cX5_feels 89 = .ok (.iaload, 1) := by decide +kernel
theorem dX5_feels_90 : decode cX5_feels 90 = .ok (.iastore, 1) := by decide +kernel
theorem dX5_feels_91 : decode cX5_feels 91 = .ok (.return_, 1) := by decide +kernel
theorem dX5_feels_92 : decode cX5_feels 92 = .ok (.aload_n 1, 1) := by decide +kernel
theorem dX5_feels_93 : decode cX5_feels 93 = .ok (.iload_n 2, 1) := by decide +kernel
theorem dX5_feels_94 : decode cX5_feels 94 = .ok (.iconst 4, 1) := by decide +kernel
theorem dX5_feels_95 : decode cX5_feels 95 = .ok (.invokestatic 36, 3) := by decide +kernel
theorem dX5_feels_98 : decode cX5_feels 98 = .ok (.iconst 0, 1) := by decide +kernel
theorem dX5_feels_99 : decode cX5_feels 99 = .ok (.iastore, 1) := by decide +kernel
theorem dX5_feels_100 : decode cX5_feels 100 = .ok (.aload_n 0, 1) := by decide +kernel
theorem dX5_feels_101 : decode cX5_feels 101 = .ok (.getfield 158, 3) := by decide +kernel
theorem dX5_feels_104 : decode cX5_feels 104 = .ok (.ifCond .eq 59, 3) := by decide +kernel
theorem dX5_feels_107 : decode cX5_feels 107 = .ok (.aload_n 0, 1) := by decide +kernel
theorem dX5_feels_108 : decode cX5_feels 108 = .ok (.getfield 151, 3) := by decide +kernel
theorem dX5_feels_111 : decode cX5_feels 111 = .ok (.iconst 2, 1) := by decide +kernel
theorem dX5_feels_112 : decode cX5_feels 112 = .ok (.isub, 1) := by decide +kernel
theorem dX5_feels_113 : decode cX5_feels 113 = .ok (.istore 4, 2) := by decide +kernel
theorem dX5_feels_115 : decode cX5_feels 115 = .ok (.aload_n 1, 1) := by decide +kernel
theorem dX5_feels_116 : decode cX5_feels 116 = .ok (.iload_n 2, 1) := by decide +kernel
theorem dX5_feels_117 : decode cX5_feels 117 = .ok (.iconst 0, 1) := by decide +kernel
theorem dX5_feels_118 : decode cX5_feels 118 = .ok (.invokestatic 36, 3) := by decide +kernel
theorem dX5_feels_121 : decode cX5_feels 121 = .ok (.aload_n 1, 1) := by decide +kernel
theorem dX5_feels_122 : decode cX5_feels 122 = .ok (.iconst 2, 1) := by decide +kernel
theorem dX5_feels_123 : decode cX5_feels 123 = .ok (.iaload, 1) := by decide +kernel
theorem dX5_feels_124 : decode cX5_feels 124 = .ok (.iload_n 3, 1) := by decide +kernel
theorem dX5_feels_125 : decode cX5_feels 125 = .ok (.iload 4, 2) := by decide +kernel
theorem dX5_feels_127 : decode cX5_feels 127 = .ok (.invokestatic 169, 3) := by decide +kernel
theorem dX5_feels_130 : decode cX5_feels 130 = .ok (.invokestatic 142, 3) := by decide +kernel
theorem dX5_feels_133 : decode cX5_feels 133 = .ok (.iastore, 1) := by decide +kernel
theorem dX5_feels_134 : decode cX5_feels 134 = .ok (.aload_n 1, 1) := by decide +kernel
theorem dX5_feels_135 : decode cX5_feels 135 = .ok (.iload_n 2, 1) := by decide +kernel
theorem dX5_feels_136 : decode cX5_feels 136 = .ok (.iconst 1, 1) := by decide +kernel
theorem dX5_feels_137 : decode cX5_feels 137 = .ok (.invokestatic 36, 3) := by decide +kernel
theorem dX5_feels_140 : decode cX5_feels 140 = .ok (.aload_n 1, 1) := by decide +kernel
theorem dX5_feels_141 : decode cX5_feels 141 = .ok (.iload_n 2, 1) := by decide +kernel
theorem dX5_feels_142 : decode cX5_feels 142 = .ok (.iconst 0, 1) := by decide +kernel
theorem dX5_feels_143 : decode cX5_feels 143 = .ok (.invokestatic 36, 3) := by decide +kernel
theorem dX5_feels_146 : decode cX5_feels 146 = .ok (.iaload, 1) := by decide +kernel
theorem dX5_feels_147 : decode cX5_feels 147 = .ok (.aload_n 1, 1) := by decide +kernel
theorem dX5_feels_148 : decode cX5_feels 148 = .ok (.iload_n 2, 1) := by decide +kernel
theorem dX5_feels_149 : decode cX5_feels 149 = .ok (.iconst 1, 1) := by decide +kernel
theorem dX5_feels_150 : decode cX5_feels 150 = .ok (.invokestatic 36, 3) := by decide +kernel
theorem dX5_feels_153 : decode cX5_feels 153 = .ok (.iaload, 1) := by decide +kernel
theorem dX5_feels_154 : decode cX5_feels 154 = .ok (.iload 4, 2) := by decide +kernel
theorem dX5_feels_156 : decode cX5_feels 156 = .ok (.invokestatic 169, 3) := by decide +kernel
theorem dX5_feels_159 : decode cX5_feels 159 = .ok (.invokestatic 142, 3) := by decide +kernel
theorem dX5_feels_162 : decode cX5_feels 162 = .ok (.iastore, 1) := by decide +kernel
theorem dX5_feels_163 : decode cX5_feels 163 = .ok (.return_, 1) := by decide +kernel
theorem dX5_probed_0 : decode cX5_probed 0 = .ok (.aload_n 0, 1) := by decide +kernel
theorem dX5_probed_1 : decode cX5_probed 1 = .ok (.iload_n 1, 1) := by decide +kernel
theorem dX5_probed_2 : decode cX5_probed 2 = .ok (.iconst 0, 1) := by decide +kernel
theorem dX5_probed_3 : decode cX5_probed 3 = .ok (.invokestatic 36, 3) := by decide +kernel
theorem dX5_probed_6 : decode cX5_probed 6 = .ok (.iaload, 1) := by decide +kernel
theorem dX5_probed_7 : decode cX5_probed 7 = .ok (.istore_n 2, 1) := by decide +kernel
theorem dX5_probed_8 : decode cX5_probed 8 = .ok (.iload_n 2, 1) := by decide +kernel
theorem dX5_probed_9 : decode cX5_probed 9 = .ok (.aload_n 0, 1) := by decide +kernel
theorem dX5_probed_10 : decode cX5_probed 10 = .ok (.iload_n 1, 1) := by decide +kernel
theorem dX5_probed_11 : decode cX5_probed 11 = .ok (.iconst 1, 1) := by decide +kernel
theorem dX5_probed_12 : decode cX5_probed 12 = .ok (.invokestatic 36, 3) := by decide +kernel
theorem dX5_probed_15 : decode cX5_probed 15 = .ok (.iaload, 1) := by decide +kernel
theorem dX5_probed_16 : decode cX5_probed 16 = .ok (.iload_n 2, 1) := by decide +kernel
theorem dX5_probed_17 : decode cX5_probed 17 = .ok (.isub, 1) := by decide +kernel
theorem dX5_probed_18 : decode cX5_probed 18 = .ok (.iconst 1, 1) := by decide +kernel
theorem dX5_probed_19 : decode cX5_probed 19 = .ok (.iadd, 1) := by decide +kernel
theorem dX5_probed_20 : decode cX5_probed 20 = .ok (.iconst 2, 1) := by decide +kernel
theorem dX5_probed_21 : decode cX5_probed 21 = .ok (.idiv, 1) := by decide +kernel
theorem dX5_probed_22 : decode cX5_probed 22 = .ok (.iadd, 1) := by decide +kernel
theorem dX5_probed_23 : decode cX5_probed 23 = .ok (.ireturn, 1) := by decide +kernel
theorem dX5_probes_0 : decode cX5_probes 0 = .ok (.aload_n 1, 1) := by decide +kernel
theorem dX5_probes_1 : decode cX5_probes 1 = .ok (.iload_n 2, 1) := by decide +kernel
theorem dX5_probes_2 : decode cX5_probes 2 = .ok (.invokestatic 172, 3) := by decide +kernel
theorem dX5_probes_5 : decode cX5_probes 5 = .ok (.istore_n 3, 1) := by decide +kernel
theorem dX5_probes_6 : decode cX5_probes 6 = .ok (.aload_n 0, 1) := by decide +kernel
theorem dX5_probes_7 : decode cX5_probes 7 = .ok (.aload_n 1, 1) := by decide +kernel
theorem dX5_probes_8 : decode cX5_probes 8 = .ok (.iload_n 2, 1) := by decide +kernel
theorem dX5_probes_9 : decode cX5_probes 9 = .ok (.iload_n 3, 1) := by decide +kernel
theorem dX5_probes_10 : decode cX5_probes 10 = .ok (.invokevirtual 165, 3) := by decide +kernel
theorem dX5_probes_13 : decode cX5_probes 13 = .ok (.aload_n 0, 1) := by decide +kernel
theorem dX5_probes_14 : decode cX5_probes 14 = .ok (.invokevirtual 162, 3) := by decide +kernel
theorem dX5_probes_17 : decode cX5_probes 17 = .ok (.ifCond .eq 44, 3) := by decide +kernel
theorem dX5_probes_20 : decode cX5_probes 20 = .ok (.aload_n 1, 1) := by decide +kernel
theorem dX5_probes_21 : decode cX5_probes 21 = .ok (.iload_n 2, 1) := by decide +kernel
theorem dX5_probes_22 : decode cX5_probes 22 = .ok (.iconst 3, 1) := by decide +kernel
theorem dX5_probes_23 : decode cX5_probes 23 = .ok (.invokestatic 36, 3) := by decide +kernel
theorem dX5_probes_26 : decode cX5_probes 26 = .ok (.dup2, 1) := by decide +kernel
theorem dX5_probes_27 : decode cX5_probes 27 = .ok (.iaload, 1) := by decide +kernel
theorem dX5_probes_28 : decode cX5_probes 28 = .ok (.iconst 1, 1) := by decide +kernel
theorem dX5_probes_29 : decode cX5_probes 29 = .ok (.iadd, 1) := by decide +kernel
theorem dX5_probes_30 : decode cX5_probes 30 = .ok (.iastore, 1) := by decide +kernel
theorem dX5_probes_31 : decode cX5_probes 31 = .ok (.aload_n 1, 1) := by decide +kernel
theorem dX5_probes_32 : decode cX5_probes 32 = .ok (.iload_n 2, 1) := by decide +kernel
theorem dX5_probes_33 : decode cX5_probes 33 = .ok (.iconst 3, 1) := by decide +kernel
theorem dX5_probes_34 : decode cX5_probes 34 = .ok (.invokestatic 36, 3) := by decide +kernel
theorem dX5_probes_37 : decode cX5_probes 37 = .ok (.iaload, 1) := by decide +kernel
theorem dX5_probes_38 : decode cX5_probes 38 = .ok (.iconst 3, 1) := by decide +kernel
theorem dX5_probes_39 : decode cX5_probes 39 = .ok (.if_icmp .ne 21, 3) := by decide +kernel
theorem dX5_probes_42 : decode cX5_probes 42 = .ok (.aload_n 1, 1) := by decide +kernel
theorem dX5_probes_43 : decode cX5_probes 43 = .ok (.iload_n 2, 1) := by decide +kernel
theorem dX5_probes_44 : decode cX5_probes 44 = .ok (.iconst 1, 1) := by decide +kernel
theorem dX5_probes_45 : decode cX5_probes 45 = .ok (.invokestatic 36, 3) := by decide +kernel
theorem dX5_probes_48 : decode cX5_probes 48 = .ok (.iload_n 3, 1) := by decide +kernel
theorem dX5_probes_49 : decode cX5_probes 49 = .ok (.iconst 1, 1) := by decide +kernel
theorem dX5_probes_50 : decode cX5_probes 50 = .ok (.isub, 1) := by decide +kernel
theorem dX5_probes_51 : decode cX5_probes 51 = .ok (.iastore, 1) := by decide +kernel
theorem dX5_probes_52 : decode cX5_probes 52 = .ok (.aload_n 1, 1) := by decide +kernel
theorem dX5_probes_53 : decode cX5_probes 53 = .ok (.iload_n 2, 1) := by decide +kernel
theorem dX5_probes_54 : decode cX5_probes 54 = .ok (.iconst 3, 1) := by decide +kernel
theorem dX5_probes_55 : decode cX5_probes 55 = .ok (.invokestatic 36, 3) := by decide +kernel
theorem dX5_probes_58 : decode cX5_probes 58 = .ok (.iconst 0, 1) := by decide +kernel
theorem dX5_probes_59 : decode cX5_probes 59 = .ok (.iastore, 1) := by decide +kernel
theorem dX5_probes_60 : decode cX5_probes 60 = .ok (.return_, 1) := by decide +kernel
theorem dX5_probes_61 : decode cX5_probes 61 = .ok (.aload_n 1, 1) := by decide +kernel
theorem dX5_probes_62 : decode cX5_probes 62 = .ok (.iload_n 2, 1) := by decide +kernel
theorem dX5_probes_63 : decode cX5_probes 63 = .ok (.iconst 3, 1) := by decide +kernel
theorem dX5_probes_64 : decode cX5_probes 64 = .ok (.invokestatic 36, 3) := by decide +kernel
theorem dX5_probes_67 : decode cX5_probes 67 = .ok (.iconst 0, 1) := by decide +kernel
theorem dX5_probes_68 : decode cX5_probes 68 = .ok (.iastore, 1) := by decide +kernel
theorem dX5_probes_69 : decode cX5_probes 69 = .ok (.aload_n 0, 1) := by decide +kernel
theorem dX5_probes_70 : decode cX5_probes 70 = .ok (.getfield 158, 3) := by decide +kernel
theorem dX5_probes_73 : decode cX5_probes 73 = .ok (.ifCond .eq 39, 3) := by decide +kernel
theorem dX5_probes_76 : decode cX5_probes 76 = .ok (.aload_n 1, 1) := by decide +kernel
theorem dX5_probes_77 : decode cX5_probes 77 = .ok (.iload_n 2, 1) := by decide +kernel
theorem dX5_probes_78 : decode cX5_probes 78 = .ok (.iconst 1, 1) := by decide +kernel
theorem dX5_probes_79 : decode cX5_probes 79 = .ok (.invokestatic 36, 3) := by decide +kernel
theorem dX5_probes_82 : decode cX5_probes 82 = .ok (.aload_n 1, 1) := by decide +kernel
theorem dX5_probes_83 : decode cX5_probes 83 = .ok (.iload_n 2, 1) := by decide +kernel
theorem dX5_probes_84 : decode cX5_probes 84 = .ok (.iconst 0, 1) := by decide +kernel
theorem dX5_probes_85 : decode cX5_probes 85 = .ok (.invokestatic 36, 3) := by decide +kernel
theorem dX5_probes_88 : decode cX5_probes 88 = .ok (.iaload, 1) := by decide +kernel
theorem dX5_probes_89 : decode cX5_probes 89 = .ok (.aload_n 1, 1) := by decide +kernel
theorem dX5_probes_90 : decode cX5_probes 90 = .ok (.iload_n 2, 1) := by decide +kernel
theorem dX5_probes_91 : decode cX5_probes 91 = .ok (.iconst 1, 1) := by decide +kernel
theorem dX5_probes_92 : decode cX5_probes 92 = .ok (.invokestatic 36, 3) := by decide +kernel
theorem dX5_probes_95 : decode cX5_probes 95 = .ok (.iaload, 1) := by decide +kernel
theorem dX5_probes_96 : decode cX5_probes 96 = .ok (.aload_n 0, 1) := by decide +kernel
theorem dX5_probes_97 : decode cX5_probes 97 = .ok (.getfield 151, 3) := by decide +kernel
theorem dX5_probes_100 : decode cX5_probes 100 = .ok (.iconst 2, 1) := by decide +kernel
theorem dX5_probes_101 : decode cX5_probes 101 = .ok (.isub, 1) := by decide +kernel
theorem dX5_probes_102 : decode cX5_probes 102 = .ok (.invokestatic 169, 3) := by decide +kernel
theorem dX5_probes_105 : decode cX5_probes 105 = .ok (.invokestatic 142, 3) := by decide +kernel
theorem dX5_probes_108 : decode cX5_probes 108 = .ok (.iastore, 1) := by decide +kernel
theorem dX5_probes_109 : decode cX5_probes 109 = .ok (.goto 11, 3) := by decide +kernel
theorem dX5_probes_112 : decode cX5_probes 112 = .ok (.aload_n 1, 1) := by decide +kernel
theorem dX5_probes_113 : decode cX5_probes 113 = .ok (.iload_n 2, 1) := by decide +kernel
theorem dX5_probes_114 : decode cX5_probes 114 = .ok (.iconst 0, 1) := by decide +kernel
theorem dX5_probes_115 : decode cX5_probes 115 = .ok (.invokestatic 36, 3) := by decide +kernel
theorem dX5_probes_118 : decode cX5_probes 118 = .ok (.iload_n 3, 1) := by decide +kernel
theorem dX5_probes_119 : decode cX5_probes 119 = .ok (.iastore, 1) := by decide +kernel
theorem dX5_probes_120 : decode cX5_probes 120 = .ok (.return_, 1) := by decide +kernel
theorem dX5_ticks_0 : decode cX5_ticks 0 = .ok (.aload_n 1, 1) := by decide +kernel
theorem dX5_ticks_1 : decode cX5_ticks 1 = .ok (.iload_n 2, 1) := by decide +kernel
theorem dX5_ticks_2 : decode cX5_ticks 2 = .ok (.iconst 0, 1) := by decide +kernel
theorem dX5_ticks_3 : decode cX5_ticks 3 = .ok (.invokestatic 36, 3) := by decide +kernel
theorem dX5_ticks_6 : decode cX5_ticks 6 = .ok (.iaload, 1) := by decide +kernel
theorem dX5_ticks_7 : decode cX5_ticks 7 = .ok (.istore_n 3, 1) := by decide +kernel
theorem dX5_ticks_8 : decode cX5_ticks 8 = .ok (.aload_n 1, 1) := by decide +kernel
theorem dX5_ticks_9 : decode cX5_ticks 9 = .ok (.iload_n 2, 1) := by decide +kernel
theorem dX5_ticks_10 : decode cX5_ticks 10 = .ok (.iconst 1, 1) := by decide +kernel
theorem dX5_ticks_11 : decode cX5_ticks 11 = .ok (.invokestatic 36, 3) := by decide +kernel
theorem dX5_ticks_14 : decode cX5_ticks 14 = .ok (.iaload, 1) := by decide +kernel
theorem dX5_ticks_15 : decode cX5_ticks 15 = .ok (.istore 4, 2) := by decide +kernel
theorem dX5_ticks_17 : decode cX5_ticks 17 = .ok (.aload_n 1, 1) := by decide +kernel
theorem dX5_ticks_18 : decode cX5_ticks 18 = .ok (.iload_n 2, 1) := by decide +kernel
theorem dX5_ticks_19 : decode cX5_ticks 19 = .ok (.iconst 2, 1) := by decide +kernel
theorem dX5_ticks_20 : decode cX5_ticks 20 = .ok (.invokestatic 36, 3) := by decide +kernel
theorem dX5_ticks_23 : decode cX5_ticks 23 = .ok (.iaload, 1) := by decide +kernel
theorem dX5_ticks_24 : decode cX5_ticks 24 = .ok (.iconst 1, 1) := by decide +kernel
theorem dX5_ticks_25 : decode cX5_ticks 25 = .ok (.if_icmp .ne 7, 3) := by decide +kernel
theorem dX5_ticks_28 : decode cX5_ticks 28 = .ok (.iconst 1, 1) := by decide +kernel
theorem dX5_ticks_29 : decode cX5_ticks 29 = .ok (.goto 4, 3) := by decide +kernel
theorem dX5_ticks_32 : decode cX5_ticks 32 = .ok (.iconst 0, 1) := by decide +kernel
theorem dX5_ticks_33 : decode cX5_ticks 33 = .ok (.istore 5, 2) := by decide +kernel
theorem dX5_ticks_35 : decode cX5_ticks 35 = .ok (.aload_n 0, 1) := by decide +kernel
theorem dX5_ticks_36 : decode cX5_ticks 36 = .ok (.aload_n 1, 1) := by decide +kernel
theorem dX5_ticks_37 : decode cX5_ticks 37 = .ok (.iload_n 2, 1) := by decide +kernel
theorem dX5_ticks_38 : decode cX5_ticks 38 = .ok (.invokevirtual 176, 3) := by decide +kernel
theorem dX5_ticks_41 : decode cX5_ticks 41 = .ok (.aload_n 1, 1) := by decide +kernel
theorem dX5_ticks_42 : decode cX5_ticks 42 = .ok (.iload_n 2, 1) := by decide +kernel
theorem dX5_ticks_43 : decode cX5_ticks 43 = .ok (.iconst 0, 1) := by decide +kernel
theorem dX5_ticks_44 : decode cX5_ticks 44 = .ok (.invokestatic 36, 3) := by decide +kernel
theorem dX5_ticks_47 : decode cX5_ticks 47 = .ok (.iaload, 1) := by decide +kernel
theorem dX5_ticks_48 : decode cX5_ticks 48 = .ok (.iload_n 3, 1) := by decide +kernel
theorem dX5_ticks_49 : decode cX5_ticks 49 = .ok (.if_icmp .ne 15, 3) := by decide +kernel
theorem dX5_ticks_52 : decode cX5_ticks 52 = .ok (.aload_n 1, 1) := by decide +kernel
theorem dX5_ticks_53 : decode cX5_ticks 53 = .ok (.iload_n 2, 1) := by decide +kernel
theorem dX5_ticks_54 : decode cX5_ticks 54 = .ok (.iconst 1, 1) := by decide +kernel
theorem dX5_ticks_55 : decode cX5_ticks 55 = .ok (.invokestatic 36, 3) := by decide +kernel
theorem dX5_ticks_58 : decode cX5_ticks 58 = .ok (.iaload, 1) := by decide +kernel
theorem dX5_ticks_59 : decode cX5_ticks 59 = .ok (.iload 4, 2) := by decide +kernel
theorem dX5_ticks_61 : decode cX5_ticks 61 = .ok (.if_icmp .eq 7, 3) := by decide +kernel
theorem dX5_ticks_64 : decode cX5_ticks 64 = .ok (.iconst 1, 1) := by decide +kernel
theorem dX5_ticks_65 : decode cX5_ticks 65 = .ok (.goto 4, 3) := by decide +kernel
theorem dX5_ticks_68 : decode cX5_ticks 68 = .ok (.iconst 0, 1) := by decide +kernel
theorem dX5_ticks_69 : decode cX5_ticks 69 = .ok (.istore 6, 2) := by decide +kernel
theorem dX5_ticks_71 : decode cX5_ticks 71 = .ok (.iload 6, 2) := by decide +kernel
theorem dX5_ticks_73 : decode cX5_ticks 73 = .ok (.ifCond .eq 11, 3) := by decide +kernel
theorem dX5_ticks_76 : decode cX5_ticks 76 = .ok (.aload_n 1, 1) := by decide +kernel
theorem dX5_ticks_77 : decode cX5_ticks 77 = .ok (.iload_n 2, 1) := by decide +kernel
theorem dX5_ticks_78 : decode cX5_ticks 78 = .ok (.iconst 3, 1) := by decide +kernel
theorem dX5_ticks_79 : decode cX5_ticks 79 = .ok (.invokestatic 36, 3) := by decide +kernel
theorem dX5_ticks_82 : decode cX5_ticks 82 = .ok (.iconst 0, 1) := by decide +kernel
theorem dX5_ticks_83 : decode cX5_ticks 83 = .ok (.iastore, 1) := by decide +kernel
theorem dX5_ticks_84 : decode cX5_ticks 84 = .ok (.aload_n 1, 1) := by decide +kernel
theorem dX5_ticks_85 : decode cX5_ticks 85 = .ok (.iload_n 2, 1) := by decide +kernel
theorem dX5_ticks_86 : decode cX5_ticks 86 = .ok (.iconst 0, 1) := by decide +kernel
theorem dX5_ticks_87 : decode cX5_ticks 87 = .ok (.invokestatic 36, 3) := by decide +kernel
theorem dX5_ticks_90 : decode cX5_ticks 90 = .ok (.iaload, 1) := by decide +kernel
theorem dX5_ticks_91 : decode cX5_ticks 91 = .ok (.aload_n 1, 1) := by decide +kernel
theorem dX5_ticks_92 : decode cX5_ticks 92 = .ok (.iload_n 2, 1) := by decide +kernel
theorem dX5_ticks_93 : decode cX5_ticks 93 = .ok (.iconst 1, 1) := by decide +kernel
theorem dX5_ticks_94 : decode cX5_ticks 94 = .ok (.invokestatic 36, 3) := by decide +kernel
theorem dX5_ticks_97 : decode cX5_ticks 97 = .ok (.iaload, 1) := by decide +kernel
theorem dX5_ticks_98 : decode cX5_ticks 98 = .ok (.if_icmp .ge 22, 3) := by decide +kernel
theorem dX5_ticks_101 : decode cX5_ticks 101 = .ok (.iload 5, 2) := by decide +kernel
theorem dX5_ticks_103 : decode cX5_ticks 103 = .ok (.ifCond .eq 8, 3) := by decide +kernel
theorem dX5_ticks_106 : decode cX5_ticks 106 = .ok (.iload 6, 2) := by decide +kernel
theorem dX5_ticks_108 : decode cX5_ticks 108 = .ok (.ifCond .eq 12, 3) := by decide +kernel
theorem dX5_ticks_111 : decode cX5_ticks 111 = .ok (.aload_n 0, 1) := by decide +kernel
theorem dX5_ticks_112 : decode cX5_ticks 112 = .ok (.aload_n 1, 1) := by decide +kernel
theorem dX5_ticks_113 : decode cX5_ticks 113 = .ok (.iload_n 2, 1) := by decide +kernel
theorem dX5_ticks_114 : decode cX5_ticks 114 = .ok (.invokevirtual 180, 3) := by decide +kernel
theorem dX5_ticks_117 : decode cX5_ticks 117 = .ok (.goto 50, 3) := by decide +kernel
theorem dX5_ticks_120 : decode cX5_ticks 120 = .ok (.iload 5, 2) := by decide +kernel
theorem dX5_ticks_122 : decode cX5_ticks 122 = .ok (.ifCond .eq 45, 3) := by decide +kernel
theorem dX5_ticks_125 : decode cX5_ticks 125 = .ok (.aload_n 1, 1) := by decide +kernel
theorem dX5_ticks_126 : decode cX5_ticks 126 = .ok (.iload_n 2, 1) := by decide +kernel
theorem dX5_ticks_127 : decode cX5_ticks 127 = .ok (.iconst 5, 1) := by decide +kernel
theorem dX5_ticks_128 : decode cX5_ticks 128 = .ok (.invokestatic 36, 3) := by decide +kernel
theorem dX5_ticks_131 : decode cX5_ticks 131 = .ok (.dup2, 1) := by decide +kernel
theorem dX5_ticks_132 : decode cX5_ticks 132 = .ok (.iaload, 1) := by decide +kernel
theorem dX5_ticks_133 : decode cX5_ticks 133 = .ok (.iconst 1, 1) := by decide +kernel
theorem dX5_ticks_134 : decode cX5_ticks 134 = .ok (.iadd, 1) := by decide +kernel
theorem dX5_ticks_135 : decode cX5_ticks 135 = .ok (.iastore, 1) := by decide +kernel
theorem dX5_ticks_136 : decode cX5_ticks 136 = .ok (.aload_n 1, 1) := by decide +kernel
theorem dX5_ticks_137 : decode cX5_ticks 137 = .ok (.iload_n 2, 1) := by decide +kernel
theorem dX5_ticks_138 : decode cX5_ticks 138 = .ok (.iconst 5, 1) := by decide +kernel
theorem dX5_ticks_139 : decode cX5_ticks 139 = .ok (.invokestatic 36, 3) := by decide +kernel
theorem dX5_ticks_142 : decode cX5_ticks 142 = .ok (.iaload, 1) := by decide +kernel
theorem dX5_ticks_143 : decode cX5_ticks 143 = .ok (.aload_n 1, 1) := by decide +kernel
theorem dX5_ticks_144 : decode cX5_ticks 144 = .ok (.iconst 4, 1) := by decide +kernel
theorem dX5_ticks_145 : decode cX5_ticks 145 = .ok (.iaload, 1) := by decide +kernel
theorem dX5_ticks_146 : decode cX5_ticks 146 = .ok (.if_icmp .ne 21, 3) := by decide +kernel
theorem dX5_ticks_149 : decode cX5_ticks 149 = .ok (.aload_n 1, 1) := by decide +kernel
theorem dX5_ticks_150 : decode cX5_ticks 150 = .ok (.iload_n 2, 1) := by decide +kernel
theorem dX5_ticks_151 : decode cX5_ticks 151 = .ok (.iconst 5, 1) := by decide +kernel
theorem dX5_ticks_152 : decode cX5_ticks 152 = .ok (.invokestatic 36, 3) := by decide +kernel
theorem dX5_ticks_155 : decode cX5_ticks 155 = .ok (.iconst 0, 1) := by decide +kernel
theorem dX5_ticks_156 : decode cX5_ticks 156 = .ok (.iastore, 1) := by decide +kernel
theorem dX5_ticks_157 : decode cX5_ticks 157 = .ok (.aload_n 1, 1) := by decide +kernel
theorem dX5_ticks_158 : decode cX5_ticks 158 = .ok (.iload_n 2, 1) := by decide +kernel
theorem dX5_ticks_159 : decode cX5_ticks 159 = .ok (.iconst 1, 1) := by decide +kernel
theorem dX5_ticks_160 : decode cX5_ticks 160 = .ok (.invokestatic 36, 3) := by decide +kernel
theorem dX5_ticks_163 : decode cX5_ticks 163 = .ok (.aload_n 1, 1) := by decide +kernel
theorem dX5_ticks_164 : decode cX5_ticks 164 = .ok (.iconst 3, 1) := by decide +kernel
theorem dX5_ticks_165 : decode cX5_ticks 165 = .ok (.iaload, 1) := by decide +kernel
theorem dX5_ticks_166 : decode cX5_ticks 166 = .ok (.iastore, 1) := by decide +kernel
theorem dX5_ticks_167 : decode cX5_ticks 167 = .ok (.aload_n 1, 1) := by decide +kernel
theorem dX5_ticks_168 : decode cX5_ticks 168 = .ok (.iload_n 2, 1) := by decide +kernel
theorem dX5_ticks_169 : decode cX5_ticks 169 = .ok (.iconst 0, 1) := by decide +kernel
theorem dX5_ticks_170 : decode cX5_ticks 170 = .ok (.invokestatic 36, 3) := by decide +kernel
theorem dX5_ticks_173 : decode cX5_ticks 173 = .ok (.iaload, 1) := by decide +kernel
theorem dX5_ticks_174 : decode cX5_ticks 174 = .ok (.aload_n 1, 1) := by decide +kernel
theorem dX5_ticks_175 : decode cX5_ticks 175 = .ok (.iload_n 2, 1) := by decide +kernel
theorem dX5_ticks_176 : decode cX5_ticks 176 = .ok (.iconst 1, 1) := by decide +kernel
theorem dX5_ticks_177 : decode cX5_ticks 177 = .ok (.invokestatic 36, 3) := by decide +kernel
theorem dX5_ticks_180 : decode cX5_ticks 180 = .ok (.iaload, 1) := by decide +kernel
theorem dX5_ticks_181 : decode cX5_ticks 181 = .ok (.if_icmp .ne 7, 3) := by decide +kernel
theorem dX5_ticks_184 : decode cX5_ticks 184 = .ok (.iconst 1, 1) := by decide +kernel
theorem dX5_ticks_185 : decode cX5_ticks 185 = .ok (.goto 4, 3) := by decide +kernel
theorem dX5_ticks_188 : decode cX5_ticks 188 = .ok (.iconst 0, 1) := by decide +kernel
theorem dX5_ticks_189 : decode cX5_ticks 189 = .ok (.istore 7, 2) := by decide +kernel
theorem dX5_ticks_191 : decode cX5_ticks 191 = .ok (.aload_n 1, 1) := by decide +kernel
theorem dX5_ticks_192 : decode cX5_ticks 192 = .ok (.iload_n 2, 1) := by decide +kernel
theorem dX5_ticks_193 : decode cX5_ticks 193 = .ok (.iconst 2, 1) := by decide +kernel
theorem dX5_ticks_194 : decode cX5_ticks 194 = .ok (.invokestatic 36, 3) := by decide +kernel
theorem dX5_ticks_197 : decode cX5_ticks 197 = .ok (.iload 7, 2) := by decide +kernel
theorem dX5_ticks_199 : decode cX5_ticks 199 = .ok (.ifCond .eq 7, 3) := by decide +kernel
theorem dX5_ticks_202 : decode cX5_ticks 202 = .ok (.iconst 1, 1) := by decide +kernel
theorem dX5_ticks_203 : decode cX5_ticks 203 = .ok (.goto 4, 3) := by decide +kernel
theorem dX5_ticks_206 : decode cX5_ticks 206 = .ok (.iconst 0, 1) := by decide +kernel
theorem dX5_ticks_207 : decode cX5_ticks 207 = .ok (.iastore, 1) := by decide +kernel
theorem dX5_ticks_208 : decode cX5_ticks 208 = .ok (.aload_n 1, 1) := by decide +kernel
theorem dX5_ticks_209 : decode cX5_ticks 209 = .ok (.iload_n 2, 1) := by decide +kernel
theorem dX5_ticks_210 : decode cX5_ticks 210 = .ok (.iconst 5, 1) := by decide +kernel
theorem dX5_ticks_211 : decode cX5_ticks 211 = .ok (.invokestatic 36, 3) := by decide +kernel
theorem dX5_ticks_214 : decode cX5_ticks 214 = .ok (.iload 7, 2) := by decide +kernel
theorem dX5_ticks_216 : decode cX5_ticks 216 = .ok (.ifCond .eq 13, 3) := by decide +kernel
theorem dX5_ticks_219 : decode cX5_ticks 219 = .ok (.aload_n 1, 1) := by decide +kernel
theorem dX5_ticks_220 : decode cX5_ticks 220 = .ok (.iload_n 2, 1) := by decide +kernel
theorem dX5_ticks_221 : decode cX5_ticks 221 = .ok (.iconst 5, 1) := by decide +kernel
theorem dX5_ticks_222 : decode cX5_ticks 222 = .ok (.invokestatic 36, 3) := by decide +kernel
theorem dX5_ticks_225 : decode cX5_ticks 225 = .ok (.iaload, 1) := by decide +kernel
theorem dX5_ticks_226 : decode cX5_ticks 226 = .ok (.goto 4, 3) := by decide +kernel
theorem dX5_ticks_229 : decode cX5_ticks 229 = .ok (.iconst 0, 1) := by decide +kernel
theorem dX5_ticks_230 : decode cX5_ticks 230 = .ok (.iastore, 1) := by decide +kernel
theorem dX5_ticks_231 : decode cX5_ticks 231 = .ok (.return_, 1) := by decide +kernel
theorem dX5_keeps_0 : decode cX5_keeps 0 = .ok (.aload_n 0, 1) := by decide +kernel
theorem dX5_keeps_1 : decode cX5_keeps 1 = .ok (.getfield 47, 3) := by decide +kernel
theorem dX5_keeps_4 : decode cX5_keeps 4 = .ok (.iconst 4, 1) := by decide +kernel
theorem dX5_keeps_5 : decode cX5_keeps 5 = .ok (.if_icmp .ne 43, 3) := by decide +kernel
theorem dX5_keeps_8 : decode cX5_keeps 8 = .ok (.iconst 0, 1) := by decide +kernel
theorem dX5_keeps_9 : decode cX5_keeps 9 = .ok (.istore_n 1, 1) := by decide +kernel
theorem dX5_keeps_10 : decode cX5_keeps 10 = .ok (.iload_n 1, 1) := by decide +kernel
theorem dX5_keeps_11 : decode cX5_keeps 11 = .ok (.sipush 309, 3) := by decide +kernel
theorem dX5_keeps_14 : decode cX5_keeps 14 = .ok (.if_icmp .ge 24, 3) := by decide +kernel
theorem dX5_keeps_17 : decode cX5_keeps 17 = .ok (.aload_n 0, 1) := by decide +kernel
theorem dX5_keeps_18 : decode cX5_keeps 18 = .ok (.getfield 19, 3) := by decide +kernel
theorem dX5_keeps_21 : decode cX5_keeps 21 = .ok (.iload_n 1, 1) := by decide +kernel
theorem dX5_keeps_22 : decode cX5_keeps 22 = .ok (.aload_n 0, 1) := by decide +kernel
theorem dX5_keeps_23 : decode cX5_keeps 23 = .ok (.getfield 19, 3) := by decide +kernel
theorem dX5_keeps_26 : decode cX5_keeps 26 = .ok (.iload_n 1, 1) := by decide +kernel
theorem dX5_keeps_27 : decode cX5_keeps 27 = .ok (.bipush 103, 2) := by decide +kernel
theorem dX5_keeps_29 : decode cX5_keeps 29 = .ok (.iadd, 1) := by decide +kernel
theorem dX5_keeps_30 : decode cX5_keeps 30 = .ok (.iaload, 1) := by decide +kernel
theorem dX5_keeps_31 : decode cX5_keeps 31 = .ok (.iastore, 1) := by decide +kernel
theorem dX5_keeps_32 : decode cX5_keeps 32 = .ok (.iinc 1 1, 3) := by decide +kernel
theorem dX5_keeps_35 : decode cX5_keeps 35 = .ok (.goto (-25), 3) := by decide +kernel
theorem dX5_keeps_38 : decode cX5_keeps 38 = .ok (.aload_n 0, 1) := by decide +kernel
theorem dX5_keeps_39 : decode cX5_keeps 39 = .ok (.dup, 1) := by decide +kernel
theorem dX5_keeps_40 : decode cX5_keeps 40 = .ok (.getfield 47, 3) := by decide +kernel
theorem dX5_keeps_43 : decode cX5_keeps 43 = .ok (.iconst 1, 1) := by decide +kernel
theorem dX5_keeps_44 : decode cX5_keeps 44 = .ok (.isub, 1) := by decide +kernel
theorem dX5_keeps_45 : decode cX5_keeps 45 = .ok (.putfield 47, 3) := by decide +kernel
theorem dX5_keeps_48 : decode cX5_keeps 48 = .ok (.aload_n 0, 1) := by decide +kernel
theorem dX5_keeps_49 : decode cX5_keeps 49 = .ok (.getfield 7, 3) := by decide +kernel
theorem dX5_keeps_52 : decode cX5_keeps 52 = .ok (.iconst 0, 1) := by decide +kernel
theorem dX5_keeps_53 : decode cX5_keeps 53 = .ok (.aload_n 0, 1) := by decide +kernel
theorem dX5_keeps_54 : decode cX5_keeps 54 = .ok (.getfield 19, 3) := by decide +kernel
theorem dX5_keeps_57 : decode cX5_keeps 57 = .ok (.bipush 103, 2) := by decide +kernel
theorem dX5_keeps_59 : decode cX5_keeps 59 = .ok (.aload_n 0, 1) := by decide +kernel
theorem dX5_keeps_60 : decode cX5_keeps 60 = .ok (.getfield 47, 3) := by decide +kernel
theorem dX5_keeps_63 : decode cX5_keeps 63 = .ok (.imul, 1) := by decide +kernel
theorem dX5_keeps_64 : decode cX5_keeps 64 = .ok (.invokestatic 43, 3) := by decide +kernel
theorem dX5_keeps_67 : decode cX5_keeps 67 = .ok (.aload_n 0, 1) := by decide +kernel
theorem dX5_keeps_68 : decode cX5_keeps 68 = .ok (.dup, 1) := by decide +kernel
theorem dX5_keeps_69 : decode cX5_keeps 69 = .ok (.getfield 47, 3) := by decide +kernel
theorem dX5_keeps_72 : decode cX5_keeps 72 = .ok (.iconst 1, 1) := by decide +kernel
theorem dX5_keeps_73 : decode cX5_keeps 73 = .ok (.iadd, 1) := by decide +kernel
theorem dX5_keeps_74 : decode cX5_keeps 74 = .ok (.putfield 47, 3) := by decide +kernel
theorem dX5_keeps_77 : decode cX5_keeps 77 = .ok (.return_, 1) := by decide +kernel
theorem dX5_undo_0 : decode cX5_undo 0 = .ok (.aload_n 0, 1) := by decide +kernel
theorem dX5_undo_1 : decode cX5_undo 1 = .ok (.getfield 47, 3) := by decide +kernel
theorem dX5_undo_4 : decode cX5_undo 4 = .ok (.ifCond .ne 6, 3) := by decide +kernel
theorem dX5_undo_7 : decode cX5_undo 7 = .ok (.bipush (-2), 2) := by decide +kernel
theorem dX5_undo_9 : decode cX5_undo 9 = .ok (.ireturn, 1) := by decide +kernel
theorem dX5_undo_10 : decode cX5_undo 10 = .ok (.aload_n 0, 1) := by decide +kernel
theorem dX5_undo_11 : decode cX5_undo 11 = .ok (.dup, 1) := by decide +kernel
theorem dX5_undo_12 : decode cX5_undo 12 = .ok (.getfield 47, 3) := by decide +kernel
theorem dX5_undo_15 : decode cX5_undo 15 = .ok (.iconst 1, 1) := by decide +kernel
theorem dX5_undo_16 : decode cX5_undo 16 = .ok (.isub, 1) := by decide +kernel
theorem dX5_undo_17 : decode cX5_undo 17 = .ok (.putfield 47, 3) := by decide +kernel
theorem dX5_undo_20 : decode cX5_undo 20 = .ok (.aload_n 0, 1) := by decide +kernel
theorem dX5_undo_21 : decode cX5_undo 21 = .ok (.getfield 19, 3) := by decide +kernel
theorem dX5_undo_24 : decode cX5_undo 24 = .ok (.bipush 103, 2) := by decide +kernel
theorem dX5_undo_26 : decode cX5_undo 26 = .ok (.aload_n 0, 1) := by decide +kernel
theorem dX5_undo_27 : decode cX5_undo 27 = .ok (.getfield 47, 3) := by decide +kernel
theorem dX5_undo_30 : decode cX5_undo 30 = .ok (.imul, 1) := by decide +kernel
theorem dX5_undo_31 : decode cX5_undo 31 = .ok (.aload_n 0, 1) := by decide +kernel
theorem dX5_undo_32 : decode cX5_undo 32 = .ok (.getfield 7, 3) := by decide +kernel
theorem dX5_undo_35 : decode cX5_undo 35 = .ok (.iconst 0, 1) := by decide +kernel
theorem dX5_undo_36 : decode cX5_undo 36 = .ok (.invokestatic 43, 3) := by decide +kernel
theorem dX5_undo_39 : decode cX5_undo 39 = .ok (.aload_n 0, 1) := by decide +kernel
theorem dX5_undo_40 : decode cX5_undo 40 = .ok (.getfield 47, 3) := by decide +kernel
theorem dX5_undo_43 : decode cX5_undo 43 = .ok (.ireturn, 1) := by decide +kernel
theorem dX5_sumOf_0 : decode cX5_sumOf 0 = .ok (.iconst 0, 1) := by decide +kernel
theorem dX5_sumOf_1 : decode cX5_sumOf 1 = .ok (.istore_n 2, 1) := by decide +kernel
theorem dX5_sumOf_2 : decode cX5_sumOf 2 = .ok (.iconst 0, 1) := by decide +kernel
theorem dX5_sumOf_3 : decode cX5_sumOf 3 = .ok (.istore_n 3, 1) := by decide +kernel
theorem dX5_sumOf_4 : decode cX5_sumOf 4 = .ok (.iload_n 3, 1) := by decide +kernel
theorem dX5_sumOf_5 : decode cX5_sumOf 5 = .ok (.aload_n 0, 1) := by decide +kernel
theorem dX5_sumOf_6 : decode cX5_sumOf 6 = .ok (.getfield 7, 3) := by decide +kernel
theorem dX5_sumOf_9 : decode cX5_sumOf 9 = .ok (.iconst 0, 1) := by decide +kernel
theorem dX5_sumOf_10 : decode cX5_sumOf 10 = .ok (.iaload, 1) := by decide +kernel
theorem dX5_sumOf_11 : decode cX5_sumOf 11 = .ok (.if_icmp .ge 22, 3) := by decide +kernel
theorem dX5_sumOf_14 : decode cX5_sumOf 14 = .ok (.iload_n 2, 1) := by decide +kernel
theorem dX5_sumOf_15 : decode cX5_sumOf 15 = .ok (.aload_n 0, 1) := by decide +kernel
theorem dX5_sumOf_16 : decode cX5_sumOf 16 = .ok (.getfield 7, 3) := by decide +kernel
theorem dX5_sumOf_19 : decode cX5_sumOf 19 = .ok (.iload_n 3, 1) := by decide +kernel
theorem dX5_sumOf_20 : decode cX5_sumOf 20 = .ok (.iload_n 1, 1) := by decide +kernel
theorem dX5_sumOf_21 : decode cX5_sumOf 21 = .ok (.invokestatic 36, 3) := by decide +kernel
theorem dX5_sumOf_24 : decode cX5_sumOf 24 = .ok (.iaload, 1) := by decide +kernel
theorem dX5_sumOf_25 : decode cX5_sumOf 25 = .ok (.iadd, 1) := by decide +kernel
theorem dX5_sumOf_26 : decode cX5_sumOf 26 = .ok (.istore_n 2, 1) := by decide +kernel
theorem dX5_sumOf_27 : decode cX5_sumOf 27 = .ok (.iinc 3 1, 3) := by decide +kernel
theorem dX5_sumOf_30 : decode cX5_sumOf 30 = .ok (.goto (-26), 3) := by decide +kernel
theorem dX5_sumOf_33 : decode cX5_sumOf 33 = .ok (.iload_n 2, 1) := by decide +kernel
theorem dX5_sumOf_34 : decode cX5_sumOf 34 = .ok (.ireturn, 1) := by decide +kernel
theorem dX5_tick_0 : decode cX5_tick 0 = .ok (.iload_n 1, 1) := by decide +kernel
theorem dX5_tick_1 : decode cX5_tick 1 = .ok (.iconst 1, 1) := by decide +kernel
theorem dX5_tick_2 : decode cX5_tick 2 = .ok (.bipush 99, 2) := by decide +kernel
theorem dX5_tick_4 : decode cX5_tick 4 = .ok (.invokestatic 57, 3) := by decide +kernel
theorem dX5_tick_7 : decode cX5_tick 7 = .ok (.ifCond .ne 5, 3) := by decide +kernel
theorem dX5_tick_10 : decode cX5_tick 10 = .ok (.iconst (-1), 1) := by decide +kernel
theorem dX5_tick_11 : decode cX5_tick 11 = .ok (.ireturn, 1) := by decide +kernel
theorem dX5_tick_12 : decode cX5_tick 12 = .ok (.aload_n 0, 1) := by decide +kernel
theorem dX5_tick_13 : decode cX5_tick 13 = .ok (.getfield 7, 3) := by decide +kernel
theorem dX5_tick_16 : decode cX5_tick 16 = .ok (.iconst 1, 1) := by decide +kernel
theorem dX5_tick_17 : decode cX5_tick 17 = .ok (.iaload, 1) := by decide +kernel
theorem dX5_tick_18 : decode cX5_tick 18 = .ok (.iload_n 1, 1) := by decide +kernel
theorem dX5_tick_19 : decode cX5_tick 19 = .ok (.iadd, 1) := by decide +kernel
theorem dX5_tick_20 : decode cX5_tick 20 = .ok (.sipush 9999, 3) := by decide +kernel
theorem dX5_tick_23 : decode cX5_tick 23 = .ok (.if_icmp .le 6, 3) := by decide +kernel
theorem dX5_tick_26 : decode cX5_tick 26 = .ok (.bipush (-2), 2) := by decide +kernel
theorem dX5_tick_28 : decode cX5_tick 28 = .ok (.ireturn, 1) := by decide +kernel
theorem dX5_tick_29 : decode cX5_tick 29 = .ok (.aload_n 0, 1) := by decide +kernel
theorem dX5_tick_30 : decode cX5_tick 30 = .ok (.invokevirtual 183, 3) := by decide +kernel
theorem dX5_tick_33 : decode cX5_tick 33 = .ok (.aload_n 0, 1) := by decide +kernel
theorem dX5_tick_34 : decode cX5_tick 34 = .ok (.bipush 8, 2) := by decide +kernel
theorem dX5_tick_36 : decode cX5_tick 36 = .ok (.invokevirtual 186, 3) := by decide +kernel
theorem dX5_tick_39 : decode cX5_tick 39 = .ok (.istore_n 2, 1) := by decide +kernel
theorem dX5_tick_40 : decode cX5_tick 40 = .ok (.iconst 0, 1) := by decide +kernel
theorem dX5_tick_41 : decode cX5_tick 41 = .ok (.istore_n 3, 1) := by decide +kernel
theorem dX5_tick_42 : decode cX5_tick 42 = .ok (.iload_n 3, 1) := by decide +kernel
theorem dX5_tick_43 : decode cX5_tick 43 = .ok (.iload_n 1, 1) := by decide +kernel
theorem dX5_tick_44 : decode cX5_tick 44 = .ok (.if_icmp .ge 39, 3) := by decide +kernel
theorem dX5_tick_47 : decode cX5_tick 47 = .ok (.iconst 0, 1) := by decide +kernel
theorem dX5_tick_48 : decode cX5_tick 48 = .ok (.istore 4, 2) := by decide +kernel
theorem dX5_tick_50 : decode cX5_tick 50 = .ok (.iload 4, 2) := by decide +kernel
theorem dX5_tick_52 : decode cX5_tick 52 = .ok (.aload_n 0, 1) := by decide +kernel
theorem dX5_tick_53 : decode cX5_tick 53 = .ok (.getfield 7, 3) := by decide +kernel
theorem dX5_tick_56 : decode cX5_tick 56 = .ok (.iconst 0, 1) := by decide +kernel
theorem dX5_tick_57 : decode cX5_tick 57 = .ok (.iaload, 1) := by decide +kernel
theorem dX5_tick_58 : decode cX5_tick 58 = .ok (.if_icmp .ge 19, 3) := by decide +kernel
theorem dX5_tick_61 : decode cX5_tick 61 = .ok (.aload_n 0, 1) := by decide +kernel
theorem dX5_tick_62 : decode cX5_tick 62 = .ok (.aload_n 0, 1) := by decide +kernel
theorem dX5_tick_63 : decode cX5_tick 63 = .ok (.getfield 7, 3) := by decide +kernel
theorem dX5_tick_66 : decode cX5_tick 66 = .ok (.iload 4, 2) := by decide +kernel
theorem dX5_tick_68 : decode cX5_tick 68 = .ok (.invokevirtual 190, 3) := by decide +kernel
theorem dX5_tick_71 : decode cX5_tick 71 = .ok (.iinc 4 1, 3) := by decide +kernel
theorem dX5_tick_74 : decode cX5_tick 74 = .ok (.goto (-24), 3) := by decide +kernel
theorem dX5_tick_77 : decode cX5_tick 77 = .ok (.iinc 3 1, 3) := by decide +kernel
theorem dX5_tick_80 : decode cX5_tick 80 = .ok (.goto (-38), 3) := by decide +kernel
theorem dX5_tick_83 : decode cX5_tick 83 = .ok (.aload_n 0, 1) := by decide +kernel
theorem dX5_tick_84 : decode cX5_tick 84 = .ok (.getfield 7, 3) := by decide +kernel
theorem dX5_tick_87 : decode cX5_tick 87 = .ok (.iconst 1, 1) := by decide +kernel
theorem dX5_tick_88 : decode cX5_tick 88 = .ok (.dup2, 1) := by decide +kernel
theorem dX5_tick_89 : decode cX5_tick 89 = .ok (.iaload, 1) := by decide +kernel
theorem dX5_tick_90 : decode cX5_tick 90 = .ok (.iload_n 1, 1) := by decide +kernel
theorem dX5_tick_91 : decode cX5_tick 91 = .ok (.iadd, 1) := by decide +kernel
theorem dX5_tick_92 : decode cX5_tick 92 = .ok (.iastore, 1) := by decide +kernel
theorem dX5_tick_93 : decode cX5_tick 93 = .ok (.aload_n 0, 1) := by decide +kernel
theorem dX5_tick_94 : decode cX5_tick 94 = .ok (.bipush 8, 2) := by decide +kernel
theorem dX5_tick_96 : decode cX5_tick 96 = .ok (.invokevirtual 186, 3) := by decide +kernel
theorem dX5_tick_99 : decode cX5_tick 99 = .ok (.iload_n 2, 1) := by decide +kernel
theorem dX5_tick_100 : decode cX5_tick 100 = .ok (.isub, 1) := by decide +kernel
theorem dX5_tick_101 : decode cX5_tick 101 = .ok (.ireturn, 1) := by decide +kernel
theorem dX5_isWay_0 : decode cX5_isWay 0 = .ok (.iload_n 1, 1) := by decide +kernel
theorem dX5_isWay_1 : decode cX5_isWay 1 = .ok (.iconst 0, 1) := by decide +kernel
theorem dX5_isWay_2 : decode cX5_isWay 2 = .ok (.aload_n 0, 1) := by decide +kernel
theorem dX5_isWay_3 : decode cX5_isWay 3 = .ok (.getfield 7, 3) := by decide +kernel
theorem dX5_isWay_6 : decode cX5_isWay 6 = .ok (.iconst 0, 1) := by decide +kernel
theorem dX5_isWay_7 : decode cX5_isWay 7 = .ok (.iaload, 1) := by decide +kernel
theorem dX5_isWay_8 : decode cX5_isWay 8 = .ok (.iconst 1, 1) := by decide +kernel
theorem dX5_isWay_9 : decode cX5_isWay 9 = .ok (.isub, 1) := by decide +kernel
theorem dX5_isWay_10 : decode cX5_isWay 10 = .ok (.invokestatic 57, 3) := by decide +kernel
theorem dX5_isWay_13 : decode cX5_isWay 13 = .ok (.ireturn, 1) := by decide +kernel
theorem dX5_isHop_0 : decode cX5_isHop 0 = .ok (.aload_n 0, 1) := by decide +kernel
theorem dX5_isHop_1 : decode cX5_isHop 1 = .ok (.iload_n 1, 1) := by decide +kernel
theorem dX5_isHop_2 : decode cX5_isHop 2 = .ok (.invokevirtual 193, 3) := by decide +kernel
theorem dX5_isHop_5 : decode cX5_isHop 5 = .ok (.ifCond .eq 28, 3) := by decide +kernel
theorem dX5_isHop_8 : decode cX5_isHop 8 = .ok (.iload_n 2, 1) := by decide +kernel
theorem dX5_isHop_9 : decode cX5_isHop 9 = .ok (.iconst 0, 1) := by decide +kernel
theorem dX5_isHop_10 : decode cX5_isHop 10 = .ok (.aload_n 0, 1) := by decide +kernel
theorem dX5_isHop_11 : decode cX5_isHop 11 = .ok (.getfield 7, 3) := by decide +kernel
theorem dX5_isHop_14 : decode cX5_isHop 14 = .ok (.iload_n 1, 1) := by decide +kernel
theorem dX5_isHop_15 : decode cX5_isHop 15 = .ok (.bipush 11, 2) := by decide +kernel
theorem dX5_isHop_17 : decode cX5_isHop 17 = .ok (.invokestatic 36, 3) := by decide +kernel
theorem dX5_isHop_20 : decode cX5_isHop 20 = .ok (.iaload, 1) := by decide +kernel
theorem dX5_isHop_21 : decode cX5_isHop 21 = .ok (.iconst 1, 1) := by decide +kernel
theorem dX5_isHop_22 : decode cX5_isHop 22 = .ok (.isub, 1) := by decide +kernel
theorem dX5_isHop_23 : decode cX5_isHop 23 = .ok (.invokestatic 57, 3) := by decide +kernel
theorem dX5_isHop_26 : decode cX5_isHop 26 = .ok (.ifCond .eq 7, 3) := by decide +kernel
theorem dX5_isHop_29 : decode cX5_isHop 29 = .ok (.iconst 1, 1) := by decide +kernel
theorem dX5_isHop_30 : decode cX5_isHop 30 = .ok (.goto 4, 3) := by decide +kernel
theorem dX5_isHop_33 : decode cX5_isHop 33 = .ok (.iconst 0, 1) := by decide +kernel
theorem dX5_isHop_34 : decode cX5_isHop 34 = .ok (.ireturn, 1) := by decide +kernel
theorem dX5_send_0 : decode cX5_send 0 = .ok (.aload_n 0, 1) := by decide +kernel
theorem dX5_send_1 : decode cX5_send 1 = .ok (.iload_n 1, 1) := by decide +kernel
theorem dX5_send_2 : decode cX5_send 2 = .ok (.invokevirtual 193, 3) := by decide +kernel
theorem dX5_send_5 : decode cX5_send 5 = .ok (.ifCond .eq 14, 3) := by decide +kernel
theorem dX5_send_8 : decode cX5_send 8 = .ok (.iload_n 2, 1) := by decide +kernel
theorem dX5_send_9 : decode cX5_send 9 = .ok (.iconst 1, 1) := by decide +kernel
theorem dX5_send_10 : decode cX5_send 10 = .ok (.sipush 999, 3) := by decide +kernel
theorem dX5_send_13 : decode cX5_send 13 = .ok (.invokestatic 57, 3) := by decide +kernel
theorem dX5_send_16 : decode cX5_send 16 = .ok (.ifCond .ne 5, 3) := by decide +kernel
theorem dX5_send_19 : decode cX5_send 19 = .ok (.iconst (-1), 1) := by decide +kernel
theorem dX5_send_20 : decode cX5_send 20 = .ok (.ireturn, 1) := by decide +kernel
theorem dX5_send_21 : decode cX5_send 21 = .ok (.aload_n 0, 1) := by decide +kernel
theorem dX5_send_22 : decode cX5_send 22 = .ok (.getfield 7, 3) := by decide +kernel
theorem dX5_send_25 : decode cX5_send 25 = .ok (.iload_n 1, 1) := by decide +kernel
theorem dX5_send_26 : decode cX5_send 26 = .ok (.bipush 7, 2) := by decide +kernel
theorem dX5_send_28 : decode cX5_send 28 = .ok (.invokestatic 36, 3) := by decide +kernel
theorem dX5_send_31 : decode cX5_send 31 = .ok (.iaload, 1) := by decide +kernel
theorem dX5_send_32 : decode cX5_send 32 = .ok (.ldc 196, 2) := by decide +kernel
theorem dX5_send_34 : decode cX5_send 34 = .ok (.if_icmp .lt 6, 3) := by decide +kernel
theorem dX5_send_37 : decode cX5_send 37 = .ok (.bipush (-2), 2) := by decide +kernel
theorem dX5_send_39 : decode cX5_send 39 = .ok (.ireturn, 1) := by decide +kernel
theorem dX5_send_40 : decode cX5_send 40 = .ok (.aload_n 0, 1) := by decide +kernel
theorem dX5_send_41 : decode cX5_send 41 = .ok (.invokevirtual 183, 3) := by decide +kernel
theorem dX5_send_44 : decode cX5_send 44 = .ok (.aload_n 0, 1) := by decide +kernel
theorem dX5_send_45 : decode cX5_send 45 = .ok (.aload_n 0, 1) := by decide +kernel
theorem dX5_send_46 : decode cX5_send 46 = .ok (.getfield 7, 3) := by decide +kernel
theorem dX5_send_49 : decode cX5_send 49 = .ok (.iload_n 1, 1) := by decide +kernel
theorem dX5_send_50 : decode cX5_send 50 = .ok (.iload_n 2, 1) := by decide +kernel
theorem dX5_send_51 : decode cX5_send 51 = .ok (.invokevirtual 165, 3) := by decide +kernel
theorem dX5_send_54 : decode cX5_send 54 = .ok (.aload_n 0, 1) := by decide +kernel
theorem dX5_send_55 : decode cX5_send 55 = .ok (.getfield 151, 3) := by decide +kernel
theorem dX5_send_58 : decode cX5_send 58 = .ok (.ireturn, 1) := by decide +kernel
theorem dX5_changed_0 : decode cX5_changed 0 = .ok (.aload_n 0, 1) := by decide +kernel
theorem dX5_changed_1 : decode cX5_changed 1 = .ok (.getfield 7, 3) := by decide +kernel
theorem dX5_changed_4 : decode cX5_changed 4 = .ok (.iload_n 1, 1) := by decide +kernel
theorem dX5_changed_5 : decode cX5_changed 5 = .ok (.iaload, 1) := by decide +kernel
theorem dX5_changed_6 : decode cX5_changed 6 = .ok (.istore_n 3, 1) := by decide +kernel
theorem dX5_changed_7 : decode cX5_changed 7 = .ok (.iload_n 3, 1) := by decide +kernel
theorem dX5_changed_8 : decode cX5_changed 8 = .ok (.iload_n 2, 1) := by decide +kernel
theorem dX5_changed_9 : decode cX5_changed 9 = .ok (.if_icmp .ne 6, 3) := by decide +kernel
theorem dX5_changed_12 : decode cX5_changed 12 = .ok (.bipush (-2), 2) := by decide +kernel
theorem dX5_changed_14 : decode cX5_changed 14 = .ok (.ireturn, 1) := by decide +kernel
theorem dX5_changed_15 : decode cX5_changed 15 = .ok (.aload_n 0, 1) := by decide +kernel
theorem dX5_changed_16 : decode cX5_changed 16 = .ok (.invokevirtual 183, 3) := by decide +kernel
theorem dX5_changed_19 : decode cX5_changed 19 = .ok (.aload_n 0, 1) := by decide +kernel
theorem dX5_changed_20 : decode cX5_changed 20 = .ok (.getfield 7, 3) := by decide +kernel
theorem dX5_changed_23 : decode cX5_changed 23 = .ok (.iload_n 1, 1) := by decide +kernel
theorem dX5_changed_24 : decode cX5_changed 24 = .ok (.iload_n 2, 1) := by decide +kernel
theorem dX5_changed_25 : decode cX5_changed 25 = .ok (.iastore, 1) := by decide +kernel
theorem dX5_changed_26 : decode cX5_changed 26 = .ok (.iload_n 3, 1) := by decide +kernel
theorem dX5_changed_27 : decode cX5_changed 27 = .ok (.ireturn, 1) := by decide +kernel
theorem dX5_limit_0 : decode cX5_limit 0 = .ok (.aload_n 0, 1) := by decide +kernel
theorem dX5_limit_1 : decode cX5_limit 1 = .ok (.iload_n 1, 1) := by decide +kernel
theorem dX5_limit_2 : decode cX5_limit 2 = .ok (.iload_n 2, 1) := by decide +kernel
theorem dX5_limit_3 : decode cX5_limit 3 = .ok (.invokevirtual 197, 3) := by decide +kernel
theorem dX5_limit_6 : decode cX5_limit 6 = .ok (.ifCond .eq 31, 3) := by decide +kernel
theorem dX5_limit_9 : decode cX5_limit 9 = .ok (.iload_n 3, 1) := by decide +kernel
theorem dX5_limit_10 : decode cX5_limit 10 = .ok (.bipush 20, 2) := by decide +kernel
theorem dX5_limit_12 : decode cX5_limit 12 = .ok (.sipush 999, 3) := by decide +kernel
theorem dX5_limit_15 : decode cX5_limit 15 = .ok (.invokestatic 57, 3) := by decide +kernel
theorem dX5_limit_18 : decode cX5_limit 18 = .ok (.ifCond .eq 19, 3) := by decide +kernel
theorem dX5_limit_21 : decode cX5_limit 21 = .ok (.aload_n 0, 1) := by decide +kernel
theorem dX5_limit_22 : decode cX5_limit 22 = .ok (.iload_n 1, 1) := by decide +kernel
theorem dX5_limit_23 : decode cX5_limit 23 = .ok (.bipush 12, 2) := by decide +kernel
theorem dX5_limit_25 : decode cX5_limit 25 = .ok (.iload_n 2, 1) := by decide +kernel
theorem dX5_limit_26 : decode cX5_limit 26 = .ok (.iadd, 1) := by decide +kernel
theorem dX5_limit_27 : decode cX5_limit 27 = .ok (.invokestatic 36, 3) := by decide +kernel
theorem dX5_limit_30 : decode cX5_limit 30 = .ok (.iload_n 3, 1) := by decide +kernel
theorem dX5_limit_31 : decode cX5_limit 31 = .ok (.invokevirtual 200, 3) := by decide +kernel
theorem dX5_limit_34 : decode cX5_limit 34 = .ok (.goto 4, 3) := by decide +kernel
theorem dX5_limit_37 : decode cX5_limit 37 = .ok (.iconst (-1), 1) := by decide +kernel
theorem dX5_limit_38 : decode cX5_limit 38 = .ok (.ireturn, 1) := by decide +kernel
theorem dX5_kind_0 : decode cX5_kind 0 = .ok (.aload_n 0, 1) := by decide +kernel
theorem dX5_kind_1 : decode cX5_kind 1 = .ok (.iload_n 1, 1) := by decide +kernel
theorem dX5_kind_2 : decode cX5_kind 2 = .ok (.iload_n 2, 1) := by decide +kernel
theorem dX5_kind_3 : decode cX5_kind 3 = .ok (.invokevirtual 197, 3) := by decide +kernel
theorem dX5_kind_6 : decode cX5_kind 6 = .ok (.ifCond .eq 28, 3) := by decide +kernel
theorem dX5_kind_9 : decode cX5_kind 9 = .ok (.iload_n 3, 1) := by decide +kernel
theorem dX5_kind_10 : decode cX5_kind 10 = .ok (.iconst 0, 1) := by decide +kernel
theorem dX5_kind_11 : decode cX5_kind 11 = .ok (.iconst 3, 1) := by decide +kernel
theorem dX5_kind_12 : decode cX5_kind 12 = .ok (.invokestatic 57, 3) := by decide +kernel
theorem dX5_kind_15 : decode cX5_kind 15 = .ok (.ifCond .eq 19, 3) := by decide +kernel
theorem dX5_kind_18 : decode cX5_kind 18 = .ok (.aload_n 0, 1) := by decide +kernel
theorem dX5_kind_19 : decode cX5_kind 19 = .ok (.iload_n 1, 1) := by decide +kernel
theorem dX5_kind_20 : decode cX5_kind 20 = .ok (.bipush 18, 2) := by decide +kernel
theorem dX5_kind_22 : decode cX5_kind 22 = .ok (.iload_n 2, 1) := by decide +kernel
theorem dX5_kind_23 : decode cX5_kind 23 = .ok (.iadd, 1) := by decide +kernel
theorem dX5_kind_24 : decode cX5_kind 24 = .ok (.invokestatic 36, 3) := by decide +kernel
theorem dX5_kind_27 : decode cX5_kind 27 = .ok (.iload_n 3, 1) := by decide +kernel
theorem dX5_kind_28 : decode cX5_kind 28 = .ok (.invokevirtual 200, 3) := by decide +kernel
theorem dX5_kind_31 : decode cX5_kind 31 = .ok (.goto 4, 3) := by decide +kernel
theorem dX5_kind_34 : decode cX5_kind 34 = .ok (.iconst (-1), 1) := by decide +kernel
theorem dX5_kind_35 : decode cX5_kind 35 = .ok (.ireturn, 1) := by decide +kernel
theorem dX5_loss_0 : decode cX5_loss 0 = .ok (.aload_n 0, 1) := by decide +kernel
theorem dX5_loss_1 : decode cX5_loss 1 = .ok (.iload_n 1, 1) := by decide +kernel
theorem dX5_loss_2 : decode cX5_loss 2 = .ok (.invokevirtual 193, 3) := by decide +kernel
theorem dX5_loss_5 : decode cX5_loss 5 = .ok (.ifCond .eq 27, 3) := by decide +kernel
theorem dX5_loss_8 : decode cX5_loss 8 = .ok (.iload_n 2, 1) := by decide +kernel
theorem dX5_loss_9 : decode cX5_loss 9 = .ok (.iconst 0, 1) := by decide +kernel
theorem dX5_loss_10 : decode cX5_loss 10 = .ok (.bipush 99, 2) := by decide +kernel
theorem dX5_loss_12 : decode cX5_loss 12 = .ok (.invokestatic 57, 3) := by decide +kernel
theorem dX5_loss_15 : decode cX5_loss 15 = .ok (.ifCond .eq 17, 3) := by decide +kernel
theorem dX5_loss_18 : decode cX5_loss 18 = .ok (.aload_n 0, 1) := by decide +kernel
theorem dX5_loss_19 : decode cX5_loss 19 = .ok (.iload_n 1, 1) := by decide +kernel
theorem dX5_loss_20 : decode cX5_loss 20 = .ok (.bipush 10, 2) := by decide +kernel
theorem dX5_loss_22 : decode cX5_loss 22 = .ok (.invokestatic 36, 3) := by decide +kernel
theorem dX5_loss_25 : decode cX5_loss 25 = .ok (.iload_n 2, 1) := by decide +kernel
theorem dX5_loss_26 : decode cX5_loss 26 = .ok (.invokevirtual 200, 3) := by decide +kernel
theorem dX5_loss_29 : decode cX5_loss 29 = .ok (.goto 4, 3) := by decide +kernel
theorem dX5_loss_32 : decode cX5_loss 32 = .ok (.iconst (-1), 1) := by decide +kernel
theorem dX5_loss_33 : decode cX5_loss 33 = .ok (.ireturn, 1) := by decide +kernel
theorem dX5_believe_0 : decode cX5_believe 0 = .ok (.iload_n 1, 1) := by decide +kernel
theorem dX5_believe_1 : decode cX5_believe 1 = .ok (.iconst 0, 1) := by decide +kernel
theorem dX5_believe_2 : decode cX5_believe 2 = .ok (.iconst 2, 1) := by decide +kernel
theorem dX5_believe_3 : decode cX5_believe 3 = .ok (.invokestatic 57, 3) := by decide +kernel
theorem dX5_believe_6 : decode cX5_believe 6 = .ok (.ifCond .eq 12, 3) := by decide +kernel
theorem dX5_believe_9 : decode cX5_believe 9 = .ok (.aload_n 0, 1) := by decide +kernel
theorem dX5_believe_10 : decode cX5_believe 10 = .ok (.iconst 5, 1) := by decide +kernel
theorem dX5_believe_11 : decode cX5_believe 11 = .ok (.iload_n 1, 1) := by decide +kernel
theorem dX5_believe_12 : decode cX5_believe 12 = .ok (.invokevirtual 200, 3) := by decide +kernel
theorem dX5_believe_15 : decode cX5_believe 15 = .ok (.goto 4, 3) := by decide +kernel
theorem dX5_believe_18 : decode cX5_believe 18 = .ok (.iconst (-1), 1) := by decide +kernel
theorem dX5_believe_19 : decode cX5_believe 19 = .ok (.ireturn, 1) := by decide +kernel
theorem dX5_passes_0 : decode cX5_passes 0 = .ok (.sipush 999, 3) := by decide +kernel
theorem dX5_passes_3 : decode cX5_passes 3 = .ok (.istore_n 2, 1) := by decide +kernel
theorem dX5_passes_4 : decode cX5_passes 4 = .ok (.iconst 0, 1) := by decide +kernel
theorem dX5_passes_5 : decode cX5_passes 5 = .ok (.istore_n 3, 1) := by decide +kernel
theorem dX5_passes_6 : decode cX5_passes 6 = .ok (.iload_n 3, 1) := by decide +kernel
theorem dX5_passes_7 : decode cX5_passes 7 = .ok (.aload_n 0, 1) := by decide +kernel
theorem dX5_passes_8 : decode cX5_passes 8 = .ok (.iload_n 1, 1) := by decide +kernel
theorem dX5_passes_9 : decode cX5_passes 9 = .ok (.bipush 11, 2) := by decide +kernel
theorem dX5_passes_11 : decode cX5_passes 11 = .ok (.invokestatic 36, 3) := by decide +kernel
theorem dX5_passes_14 : decode cX5_passes 14 = .ok (.iaload, 1) := by decide +kernel
theorem dX5_passes_15 : decode cX5_passes 15 = .ok (.if_icmp .ge 24, 3) := by decide +kernel
theorem dX5_passes_18 : decode cX5_passes 18 = .ok (.iload_n 2, 1) := by decide +kernel
theorem dX5_passes_19 : decode cX5_passes 19 = .ok (.aload_n 0, 1) := by decide +kernel
theorem dX5_passes_20 : decode cX5_passes 20 = .ok (.iload_n 1, 1) := by decide +kernel
theorem dX5_passes_21 : decode cX5_passes 21 = .ok (.bipush 12, 2) := by decide +kernel
theorem dX5_passes_23 : decode cX5_passes 23 = .ok (.iload_n 3, 1) := by decide +kernel
theorem dX5_passes_24 : decode cX5_passes 24 = .ok (.iadd, 1) := by decide +kernel
theorem dX5_passes_25 : decode cX5_passes 25 = .ok (.invokestatic 36, 3) := by decide +kernel
theorem dX5_passes_28 : decode cX5_passes 28 = .ok (.iaload, 1) := by decide +kernel
theorem dX5_passes_29 : decode cX5_passes 29 = .ok (.invokestatic 169, 3) := by decide +kernel
theorem dX5_passes_32 : decode cX5_passes 32 = .ok (.istore_n 2, 1) := by decide +kernel
theorem dX5_passes_33 : decode cX5_passes 33 = .ok (.iinc 3 1, 3) := by decide +kernel
theorem dX5_passes_36 : decode cX5_passes 36 = .ok (.goto (-30), 3) := by decide +kernel
theorem dX5_passes_39 : decode cX5_passes 39 = .ok (.iload_n 2, 1) := by decide +kernel
theorem dX5_passes_40 : decode cX5_passes 40 = .ok (.ireturn, 1) := by decide +kernel
theorem dX5_way_0 : decode cX5_way 0 = .ok (.aload_n 0, 1) := by decide +kernel
theorem dX5_way_1 : decode cX5_way 1 = .ok (.iload_n 1, 1) := by decide +kernel
theorem dX5_way_2 : decode cX5_way 2 = .ok (.invokevirtual 193, 3) := by decide +kernel
theorem dX5_way_5 : decode cX5_way 5 = .ok (.ifCond .eq 13, 3) := by decide +kernel
theorem dX5_way_8 : decode cX5_way 8 = .ok (.iload_n 2, 1) := by decide +kernel
theorem dX5_way_9 : decode cX5_way 9 = .ok (.iconst 0, 1) := by decide +kernel
theorem dX5_way_10 : decode cX5_way 10 = .ok (.bipush 12, 2) := by decide +kernel
theorem dX5_way_12 : decode cX5_way 12 = .ok (.invokestatic 57, 3) := by decide +kernel
theorem dX5_way_15 : decode cX5_way 15 = .ok (.ifCond .ne 5, 3) := by decide +kernel
theorem dX5_way_18 : decode cX5_way 18 = .ok (.iconst (-1), 1) := by decide +kernel
theorem dX5_way_19 : decode cX5_way 19 = .ok (.ireturn, 1) := by decide +kernel
theorem dX5_way_20 : decode cX5_way 20 = .ok (.iload_n 2, 1) := by decide +kernel
theorem dX5_way_21 : decode cX5_way 21 = .ok (.bipush 10, 2) := by decide +kernel
theorem dX5_way_23 : decode cX5_way 23 = .ok (.if_icmp .ge 16, 3) := by decide +kernel
theorem dX5_way_26 : decode cX5_way 26 = .ok (.aload_n 0, 1) := by decide +kernel
theorem dX5_way_27 : decode cX5_way 27 = .ok (.getfield 7, 3) := by decide +kernel
theorem dX5_way_30 : decode cX5_way 30 = .ok (.iload_n 1, 1) := by decide +kernel
theorem dX5_way_31 : decode cX5_way 31 = .ok (.iload_n 2, 1) := by decide +kernel
theorem dX5_way_32 : decode cX5_way 32 = .ok (.invokestatic 36, 3) := by decide +kernel
theorem dX5_way_35 : decode cX5_way 35 = .ok (.iaload, 1) := by decide +kernel
theorem dX5_way_36 : decode cX5_way 36 = .ok (.goto 51, 3) := by decide +kernel
theorem dX5_way_39 : decode cX5_way 39 = .ok (.iload_n 2, 1) := by decide +kernel
theorem dX5_way_40 : decode cX5_way 40 = .ok (.bipush 10, 2) := by decide +kernel
theorem dX5_way_42 : decode cX5_way 42 = .ok (.if_icmp .ne 14, 3) := by decide +kernel
theorem dX5_way_45 : decode cX5_way 45 = .ok (.aload_n 0, 1) := by decide +kernel
theorem dX5_way_46 : decode cX5_way 46 = .ok (.getfield 7, 3) := by decide +kernel
theorem dX5_way_49 : decode cX5_way 49 = .ok (.iload_n 1, 1) := by decide +kernel
theorem dX5_way_50 : decode cX5_way 50 = .ok (.invokestatic 203, 3) := by decide +kernel
theorem dX5_way_53 : decode cX5_way 53 = .ok (.goto 34, 3) := by decide +kernel
theorem dX5_way_56 : decode cX5_way 56 = .ok (.iload_n 2, 1) := by decide +kernel
theorem dX5_way_57 : decode cX5_way 57 = .ok (.bipush 11, 2) := by decide +kernel
theorem dX5_way_59 : decode cX5_way 59 = .ok (.if_icmp .ne 17, 3) := by decide +kernel
theorem dX5_way_62 : decode cX5_way 62 = .ok (.aload_n 0, 1) := by decide +kernel
theorem dX5_way_63 : decode cX5_way 63 = .ok (.getfield 7, 3) := by decide +kernel
theorem dX5_way_66 : decode cX5_way 66 = .ok (.iload_n 1, 1) := by decide +kernel
theorem dX5_way_67 : decode cX5_way 67 = .ok (.bipush 11, 2) := by decide +kernel
theorem dX5_way_69 : decode cX5_way 69 = .ok (.invokestatic 36, 3) := by decide +kernel
theorem dX5_way_72 : decode cX5_way 72 = .ok (.iaload, 1) := by decide +kernel
theorem dX5_way_73 : decode cX5_way 73 = .ok (.goto 14, 3) := by decide +kernel
theorem dX5_way_76 : decode cX5_way 76 = .ok (.aload_n 0, 1) := by decide +kernel
theorem dX5_way_77 : decode cX5_way 77 = .ok (.getfield 7, 3) := by decide +kernel
theorem dX5_way_80 : decode cX5_way 80 = .ok (.iload_n 1, 1) := by decide +kernel
theorem dX5_way_81 : decode cX5_way 81 = .ok (.bipush 10, 2) := by decide +kernel
theorem dX5_way_83 : decode cX5_way 83 = .ok (.invokestatic 36, 3) := by decide +kernel
theorem dX5_way_86 : decode cX5_way 86 = .ok (.iaload, 1) := by decide +kernel
theorem dX5_way_87 : decode cX5_way 87 = .ok (.ireturn, 1) := by decide +kernel
theorem dX5_hop_0 : decode cX5_hop 0 = .ok (.aload_n 0, 1) := by decide +kernel
theorem dX5_hop_1 : decode cX5_hop 1 = .ok (.iload_n 1, 1) := by decide +kernel
theorem dX5_hop_2 : decode cX5_hop 2 = .ok (.iload_n 2, 1) := by decide +kernel
theorem dX5_hop_3 : decode cX5_hop 3 = .ok (.invokevirtual 197, 3) := by decide +kernel
theorem dX5_hop_6 : decode cX5_hop 6 = .ok (.ifCond .eq 37, 3) := by decide +kernel
theorem dX5_hop_9 : decode cX5_hop 9 = .ok (.iload_n 3, 1) := by decide +kernel
theorem dX5_hop_10 : decode cX5_hop 10 = .ok (.iconst 0, 1) := by decide +kernel
theorem dX5_hop_11 : decode cX5_hop 11 = .ok (.iconst 1, 1) := by decide +kernel
theorem dX5_hop_12 : decode cX5_hop 12 = .ok (.invokestatic 57, 3) := by decide +kernel
theorem dX5_hop_15 : decode cX5_hop 15 = .ok (.ifCond .eq 28, 3) := by decide +kernel
theorem dX5_hop_18 : decode cX5_hop 18 = .ok (.aload_n 0, 1) := by decide +kernel
theorem dX5_hop_19 : decode cX5_hop 19 = .ok (.getfield 7, 3) := by decide +kernel
theorem dX5_hop_22 : decode cX5_hop 22 = .ok (.iload_n 1, 1) := by decide +kernel
theorem dX5_hop_23 : decode cX5_hop 23 = .ok (.iload_n 3, 1) := by decide +kernel
theorem dX5_hop_24 : decode cX5_hop 24 = .ok (.ifCond .ne 8, 3) := by decide +kernel
theorem dX5_hop_27 : decode cX5_hop 27 = .ok (.bipush 12, 2) := by decide +kernel
theorem dX5_hop_29 : decode cX5_hop 29 = .ok (.goto 5, 3) := by decide +kernel
theorem dX5_hop_32 : decode cX5_hop 32 = .ok (.bipush 18, 2) := by decide +kernel
theorem dX5_hop_34 : decode cX5_hop 34 = .ok (.iload_n 2, 1) := by decide +kernel
theorem dX5_hop_35 : decode cX5_hop 35 = .ok (.iadd, 1) := by decide +kernel
theorem dX5_hop_36 : decode cX5_hop 36 = .ok (.invokestatic 36, 3) := by decide +kernel
theorem dX5_hop_39 : decode cX5_hop 39 = .ok (.iaload, 1) := by decide +kernel
theorem dX5_hop_40 : decode cX5_hop 40 = .ok (.goto 4, 3) := by decide +kernel
theorem dX5_hop_43 : decode cX5_hop 43 = .ok (.iconst (-1), 1) := by decide +kernel
theorem dX5_hop_44 : decode cX5_hop 44 = .ok (.ireturn, 1) := by decide +kernel
theorem dX5_probe_0 : decode cX5_probe 0 = .ok (.aload_n 0, 1) := by decide +kernel
theorem dX5_probe_1 : decode cX5_probe 1 = .ok (.iload_n 1, 1) := by decide +kernel
theorem dX5_probe_2 : decode cX5_probe 2 = .ok (.invokevirtual 193, 3) := by decide +kernel
theorem dX5_probe_5 : decode cX5_probe 5 = .ok (.ifCond .ne 5, 3) := by decide +kernel
theorem dX5_probe_8 : decode cX5_probe 8 = .ok (.iconst (-1), 1) := by decide +kernel
theorem dX5_probe_9 : decode cX5_probe 9 = .ok (.ireturn, 1) := by decide +kernel
theorem dX5_probe_10 : decode cX5_probe 10 = .ok (.aload_n 0, 1) := by decide +kernel
theorem dX5_probe_11 : decode cX5_probe 11 = .ok (.getfield 7, 3) := by decide +kernel
theorem dX5_probe_14 : decode cX5_probe 14 = .ok (.iload_n 1, 1) := by decide +kernel
theorem dX5_probe_15 : decode cX5_probe 15 = .ok (.iconst 0, 1) := by decide +kernel
theorem dX5_probe_16 : decode cX5_probe 16 = .ok (.invokestatic 36, 3) := by decide +kernel
theorem dX5_probe_19 : decode cX5_probe 19 = .ok (.iaload, 1) := by decide +kernel
theorem dX5_probe_20 : decode cX5_probe 20 = .ok (.aload_n 0, 1) := by decide +kernel
theorem dX5_probe_21 : decode cX5_probe 21 = .ok (.getfield 7, 3) := by decide +kernel
theorem dX5_probe_24 : decode cX5_probe 24 = .ok (.iload_n 1, 1) := by decide +kernel
theorem dX5_probe_25 : decode cX5_probe 25 = .ok (.iconst 1, 1) := by decide +kernel
theorem dX5_probe_26 : decode cX5_probe 26 = .ok (.invokestatic 36, 3) := by decide +kernel
theorem dX5_probe_29 : decode cX5_probe 29 = .ok (.iaload, 1) := by decide +kernel
theorem dX5_probe_30 : decode cX5_probe 30 = .ok (.if_icmp .ne 8, 3) := by decide +kernel
theorem dX5_probe_33 : decode cX5_probe 33 = .ok (.bipush (-4), 2) := by decide +kernel
theorem dX5_probe_35 : decode cX5_probe 35 = .ok (.goto 11, 3) := by decide +kernel
theorem dX5_probe_38 : decode cX5_probe 38 = .ok (.aload_n 0, 1) := by decide +kernel
theorem dX5_probe_39 : decode cX5_probe 39 = .ok (.getfield 7, 3) := by decide +kernel
theorem dX5_probe_42 : decode cX5_probe 42 = .ok (.iload_n 1, 1) := by decide +kernel
theorem dX5_probe_43 : decode cX5_probe 43 = .ok (.invokestatic 172, 3) := by decide +kernel
theorem dX5_probe_46 : decode cX5_probe 46 = .ok (.ireturn, 1) := by decide +kernel
theorem dX5_padding_0 : decode cX5_padding 0 = .ok (.aload_n 0, 1) := by decide +kernel
theorem dX5_padding_1 : decode cX5_padding 1 = .ok (.iload_n 1, 1) := by decide +kernel
theorem dX5_padding_2 : decode cX5_padding 2 = .ok (.invokevirtual 193, 3) := by decide +kernel
theorem dX5_padding_5 : decode cX5_padding 5 = .ok (.ifCond .eq 14, 3) := by decide +kernel
theorem dX5_padding_8 : decode cX5_padding 8 = .ok (.iload_n 2, 1) := by decide +kernel
theorem dX5_padding_9 : decode cX5_padding 9 = .ok (.iconst 0, 1) := by decide +kernel
theorem dX5_padding_10 : decode cX5_padding 10 = .ok (.sipush 999, 3) := by decide +kernel
theorem dX5_padding_13 : decode cX5_padding 13 = .ok (.invokestatic 57, 3) := by decide +kernel
theorem dX5_padding_16 : decode cX5_padding 16 = .ok (.ifCond .ne 5, 3) := by decide +kernel
theorem dX5_padding_19 : decode cX5_padding 19 = .ok (.iconst (-1), 1) := by decide +kernel
theorem dX5_padding_20 : decode cX5_padding 20 = .ok (.ireturn, 1) := by decide +kernel
theorem dX5_padding_21 : decode cX5_padding 21 = .ok (.aload_n 0, 1) := by decide +kernel
theorem dX5_padding_22 : decode cX5_padding 22 = .ok (.getfield 7, 3) := by decide +kernel
theorem dX5_padding_25 : decode cX5_padding 25 = .ok (.iload_n 1, 1) := by decide +kernel
theorem dX5_padding_26 : decode cX5_padding 26 = .ok (.iconst 0, 1) := by decide +kernel
theorem dX5_padding_27 : decode cX5_padding 27 = .ok (.invokestatic 36, 3) := by decide +kernel
theorem dX5_padding_30 : decode cX5_padding 30 = .ok (.iaload, 1) := by decide +kernel
theorem dX5_padding_31 : decode cX5_padding 31 = .ok (.aload_n 0, 1) := by decide +kernel
theorem dX5_padding_32 : decode cX5_padding 32 = .ok (.getfield 7, 3) := by decide +kernel
theorem dX5_padding_35 : decode cX5_padding 35 = .ok (.iload_n 1, 1) := by decide +kernel
theorem dX5_padding_36 : decode cX5_padding 36 = .ok (.iconst 1, 1) := by decide +kernel
theorem dX5_padding_37 : decode cX5_padding 37 = .ok (.invokestatic 36, 3) := by decide +kernel
theorem dX5_padding_40 : decode cX5_padding 40 = .ok (.iaload, 1) := by decide +kernel
theorem dX5_padding_41 : decode cX5_padding 41 = .ok (.if_icmp .ne 6, 3) := by decide +kernel
theorem dX5_padding_44 : decode cX5_padding 44 = .ok (.bipush (-4), 2) := by decide +kernel
theorem dX5_padding_46 : decode cX5_padding 46 = .ok (.ireturn, 1) := by decide +kernel
theorem dX5_padding_47 : decode cX5_padding 47 = .ok (.aload_n 0, 1) := by decide +kernel
theorem dX5_padding_48 : decode cX5_padding 48 = .ok (.getfield 7, 3) := by decide +kernel
theorem dX5_padding_51 : decode cX5_padding 51 = .ok (.iload_n 1, 1) := by decide +kernel
theorem dX5_padding_52 : decode cX5_padding 52 = .ok (.invokestatic 172, 3) := by decide +kernel
theorem dX5_padding_55 : decode cX5_padding 55 = .ok (.istore_n 3, 1) := by decide +kernel
theorem dX5_padding_56 : decode cX5_padding 56 = .ok (.iload_n 2, 1) := by decide +kernel
theorem dX5_padding_57 : decode cX5_padding 57 = .ok (.iload_n 3, 1) := by decide +kernel
theorem dX5_padding_58 : decode cX5_padding 58 = .ok (.if_icmp .le 8, 3) := by decide +kernel
theorem dX5_padding_61 : decode cX5_padding 61 = .ok (.bipush (-2), 2) := by decide +kernel
theorem dX5_padding_63 : decode cX5_padding 63 = .ok (.goto 6, 3) := by decide +kernel
theorem dX5_padding_66 : decode cX5_padding 66 = .ok (.iload_n 3, 1) := by decide +kernel
end
section
theorem dX5_padding_67 : decode cX5_padding 67 = .ok (.iload_n 2, 1) := by decide +kernel
theorem dX5_padding_68 : decode cX5_padding 68 = .ok (.isub, 1) := by decide +kernel
theorem dX5_padding_69 : decode cX5_padding 69 = .ok (.ireturn, 1) := by decide +kernel
theorem dX5_meets_0 : decode cX5_meets 0 = .ok (.aload_n 0, 1) := by decide +kernel
theorem dX5_meets_1 : decode cX5_meets 1 = .ok (.iload_n 1, 1) := by decide +kernel
theorem dX5_meets_2 : decode cX5_meets 2 = .ok (.invokevirtual 193, 3) := by decide +kernel
theorem dX5_meets_5 : decode cX5_meets 5 = .ok (.ifCond .eq 23, 3) := by decide +kernel
theorem dX5_meets_8 : decode cX5_meets 8 = .ok (.iload_n 2, 1) := by decide +kernel
theorem dX5_meets_9 : decode cX5_meets 9 = .ok (.iconst 1, 1) := by decide +kernel
theorem dX5_meets_10 : decode cX5_meets 10 = .ok (.sipush 999, 3) := by decide +kernel
theorem dX5_meets_13 : decode cX5_meets 13 = .ok (.invokestatic 57, 3) := by decide +kernel
theorem dX5_meets_16 : decode cX5_meets 16 = .ok (.ifCond .eq 12, 3) := by decide +kernel
theorem dX5_meets_19 : decode cX5_meets 19 = .ok (.iload_n 3, 1) := by decide +kernel
theorem dX5_meets_20 : decode cX5_meets 20 = .ok (.iconst 0, 1) := by decide +kernel
theorem dX5_meets_21 : decode cX5_meets 21 = .ok (.iconst 1, 1) := by decide +kernel
theorem dX5_meets_22 : decode cX5_meets 22 = .ok (.invokestatic 57, 3) := by decide +kernel
theorem dX5_meets_25 : decode cX5_meets 25 = .ok (.ifCond .ne 5, 3) := by decide +kernel
theorem dX5_meets_28 : decode cX5_meets 28 = .ok (.iconst (-1), 1) := by decide +kernel
theorem dX5_meets_29 : decode cX5_meets 29 = .ok (.ireturn, 1) := by decide +kernel
theorem dX5_meets_30 : decode cX5_meets 30 = .ok (.iload_n 3, 1) := by decide +kernel
theorem dX5_meets_31 : decode cX5_meets 31 = .ok (.ifCond .ne 15, 3) := by decide +kernel
theorem dX5_meets_34 : decode cX5_meets 34 = .ok (.aload_n 0, 1) := by decide +kernel
theorem dX5_meets_35 : decode cX5_meets 35 = .ok (.getfield 7, 3) := by decide +kernel
theorem dX5_meets_38 : decode cX5_meets 38 = .ok (.iload_n 1, 1) := by decide +kernel
theorem dX5_meets_39 : decode cX5_meets 39 = .ok (.iload_n 2, 1) := by decide +kernel
theorem dX5_meets_40 : decode cX5_meets 40 = .ok (.invokestatic 148, 3) := by decide +kernel
theorem dX5_meets_43 : decode cX5_meets 43 = .ok (.goto 12, 3) := by decide +kernel
theorem dX5_meets_46 : decode cX5_meets 46 = .ok (.aload_n 0, 1) := by decide +kernel
theorem dX5_meets_47 : decode cX5_meets 47 = .ok (.getfield 7, 3) := by decide +kernel
theorem dX5_meets_50 : decode cX5_meets 50 = .ok (.iload_n 1, 1) := by decide +kernel
theorem dX5_meets_51 : decode cX5_meets 51 = .ok (.iload_n 2, 1) := by decide +kernel
theorem dX5_meets_52 : decode cX5_meets 52 = .ok (.invokestatic 138, 3) := by decide +kernel
theorem dX5_meets_55 : decode cX5_meets 55 = .ok (.ireturn, 1) := by decide +kernel
theorem dX5_draw_0 : decode cX5_draw 0 = .ok (.aload_n 0, 1) := by decide +kernel
theorem dX5_draw_1 : decode cX5_draw 1 = .ok (.iload_n 1, 1) := by decide +kernel
theorem dX5_draw_2 : decode cX5_draw 2 = .ok (.invokevirtual 193, 3) := by decide +kernel
theorem dX5_draw_5 : decode cX5_draw 5 = .ok (.ifCond .eq 26, 3) := by decide +kernel
theorem dX5_draw_8 : decode cX5_draw 8 = .ok (.iload_n 2, 1) := by decide +kernel
theorem dX5_draw_9 : decode cX5_draw 9 = .ok (.iconst 0, 1) := by decide +kernel
theorem dX5_draw_10 : decode cX5_draw 10 = .ok (.sipush 9999, 3) := by decide +kernel
theorem dX5_draw_13 : decode cX5_draw 13 = .ok (.invokestatic 57, 3) := by decide +kernel
theorem dX5_draw_16 : decode cX5_draw 16 = .ok (.ifCond .eq 15, 3) := by decide +kernel
theorem dX5_draw_19 : decode cX5_draw 19 = .ok (.aload_n 0, 1) := by decide +kernel
theorem dX5_draw_20 : decode cX5_draw 20 = .ok (.getfield 7, 3) := by decide +kernel
theorem dX5_draw_23 : decode cX5_draw 23 = .ok (.iload_n 1, 1) := by decide +kernel
theorem dX5_draw_24 : decode cX5_draw 24 = .ok (.iload_n 2, 1) := by decide +kernel
theorem dX5_draw_25 : decode cX5_draw 25 = .ok (.invokestatic 145, 3) := by decide +kernel
theorem dX5_draw_28 : decode cX5_draw 28 = .ok (.goto 4, 3) := by decide +kernel
theorem dX5_draw_31 : decode cX5_draw 31 = .ok (.iconst (-1), 1) := by decide +kernel
theorem dX5_draw_32 : decode cX5_draw 32 = .ok (.ireturn, 1) := by decide +kernel
theorem dX5_ahead_0 : decode cX5_ahead 0 = .ok (.iload_n 1, 1) := by decide +kernel
theorem dX5_ahead_1 : decode cX5_ahead 1 = .ok (.iconst 1, 1) := by decide +kernel
theorem dX5_ahead_2 : decode cX5_ahead 2 = .ok (.bipush 99, 2) := by decide +kernel
theorem dX5_ahead_4 : decode cX5_ahead 4 = .ok (.invokestatic 57, 3) := by decide +kernel
theorem dX5_ahead_7 : decode cX5_ahead 7 = .ok (.ifCond .eq 20, 3) := by decide +kernel
theorem dX5_ahead_10 : decode cX5_ahead 10 = .ok (.aload_n 0, 1) := by decide +kernel
theorem dX5_ahead_11 : decode cX5_ahead 11 = .ok (.iload_n 2, 1) := by decide +kernel
theorem dX5_ahead_12 : decode cX5_ahead 12 = .ok (.invokevirtual 193, 3) := by decide +kernel
theorem dX5_ahead_15 : decode cX5_ahead 15 = .ok (.ifCond .eq 12, 3) := by decide +kernel
theorem dX5_ahead_18 : decode cX5_ahead 18 = .ok (.iload_n 3, 1) := by decide +kernel
theorem dX5_ahead_19 : decode cX5_ahead 19 = .ok (.iconst 0, 1) := by decide +kernel
theorem dX5_ahead_20 : decode cX5_ahead 20 = .ok (.iconst 4, 1) := by decide +kernel
theorem dX5_ahead_21 : decode cX5_ahead 21 = .ok (.invokestatic 57, 3) := by decide +kernel
theorem dX5_ahead_24 : decode cX5_ahead 24 = .ok (.ifCond .ne 5, 3) := by decide +kernel
theorem dX5_ahead_27 : decode cX5_ahead 27 = .ok (.iconst (-1), 1) := by decide +kernel
theorem dX5_ahead_28 : decode cX5_ahead 28 = .ok (.ireturn, 1) := by decide +kernel
theorem dX5_ahead_29 : decode cX5_ahead 29 = .ok (.aload_n 0, 1) := by decide +kernel
theorem dX5_ahead_30 : decode cX5_ahead 30 = .ok (.getfield 7, 3) := by decide +kernel
theorem dX5_ahead_33 : decode cX5_ahead 33 = .ok (.iconst 0, 1) := by decide +kernel
theorem dX5_ahead_34 : decode cX5_ahead 34 = .ok (.aload_n 0, 1) := by decide +kernel
theorem dX5_ahead_35 : decode cX5_ahead 35 = .ok (.getfield 16, 3) := by decide +kernel
theorem dX5_ahead_38 : decode cX5_ahead 38 = .ok (.iconst 0, 1) := by decide +kernel
theorem dX5_ahead_39 : decode cX5_ahead 39 = .ok (.invokestatic 43, 3) := by decide +kernel
theorem dX5_ahead_42 : decode cX5_ahead 42 = .ok (.iconst 0, 1) := by decide +kernel
theorem dX5_ahead_43 : decode cX5_ahead 43 = .ok (.istore 4, 2) := by decide +kernel
theorem dX5_ahead_45 : decode cX5_ahead 45 = .ok (.iload 4, 2) := by decide +kernel
theorem dX5_ahead_47 : decode cX5_ahead 47 = .ok (.iload_n 1, 1) := by decide +kernel
theorem dX5_ahead_48 : decode cX5_ahead 48 = .ok (.if_icmp .ge 18, 3) := by decide +kernel
theorem dX5_ahead_51 : decode cX5_ahead 51 = .ok (.aload_n 0, 1) := by decide +kernel
theorem dX5_ahead_52 : decode cX5_ahead 52 = .ok (.aload_n 0, 1) := by decide +kernel
theorem dX5_ahead_53 : decode cX5_ahead 53 = .ok (.getfield 16, 3) := by decide +kernel
theorem dX5_ahead_56 : decode cX5_ahead 56 = .ok (.iload_n 2, 1) := by decide +kernel
theorem dX5_ahead_57 : decode cX5_ahead 57 = .ok (.invokevirtual 190, 3) := by decide +kernel
theorem dX5_ahead_60 : decode cX5_ahead 60 = .ok (.iinc 4 1, 3) := by decide +kernel
theorem dX5_ahead_63 : decode cX5_ahead 63 = .ok (.goto (-18), 3) := by decide +kernel
theorem dX5_ahead_66 : decode cX5_ahead 66 = .ok (.iload_n 3, 1) := by decide +kernel
theorem dX5_ahead_67 : decode cX5_ahead 67 = .ok (.iconst 3, 1) := by decide +kernel
theorem dX5_ahead_68 : decode cX5_ahead 68 = .ok (.if_icmp .ge 14, 3) := by decide +kernel
theorem dX5_ahead_71 : decode cX5_ahead 71 = .ok (.aload_n 0, 1) := by decide +kernel
theorem dX5_ahead_72 : decode cX5_ahead 72 = .ok (.getfield 16, 3) := by decide +kernel
theorem dX5_ahead_75 : decode cX5_ahead 75 = .ok (.iload_n 2, 1) := by decide +kernel
theorem dX5_ahead_76 : decode cX5_ahead 76 = .ok (.iload_n 3, 1) := by decide +kernel
theorem dX5_ahead_77 : decode cX5_ahead 77 = .ok (.invokestatic 36, 3) := by decide +kernel
theorem dX5_ahead_80 : decode cX5_ahead 80 = .ok (.iaload, 1) := by decide +kernel
theorem dX5_ahead_81 : decode cX5_ahead 81 = .ok (.ireturn, 1) := by decide +kernel
theorem dX5_ahead_82 : decode cX5_ahead 82 = .ok (.iload_n 2, 1) := by decide +kernel
theorem dX5_ahead_83 : decode cX5_ahead 83 = .ok (.iload_n 3, 1) := by decide +kernel
theorem dX5_ahead_84 : decode cX5_ahead 84 = .ok (.iconst 3, 1) := by decide +kernel
theorem dX5_ahead_85 : decode cX5_ahead 85 = .ok (.if_icmp .ne 8, 3) := by decide +kernel
theorem dX5_ahead_88 : decode cX5_ahead 88 = .ok (.bipush 6, 2) := by decide +kernel
theorem dX5_ahead_90 : decode cX5_ahead 90 = .ok (.goto 5, 3) := by decide +kernel
theorem dX5_ahead_93 : decode cX5_ahead 93 = .ok (.bipush 8, 2) := by decide +kernel
theorem dX5_ahead_95 : decode cX5_ahead 95 = .ok (.invokestatic 36, 3) := by decide +kernel
theorem dX5_ahead_98 : decode cX5_ahead 98 = .ok (.istore 4, 2) := by decide +kernel
theorem dX5_ahead_100 : decode cX5_ahead 100 = .ok (.aload_n 0, 1) := by decide +kernel
theorem dX5_ahead_101 : decode cX5_ahead 101 = .ok (.getfield 16, 3) := by decide +kernel
theorem dX5_ahead_104 : decode cX5_ahead 104 = .ok (.iload 4, 2) := by decide +kernel
theorem dX5_ahead_106 : decode cX5_ahead 106 = .ok (.iaload, 1) := by decide +kernel
theorem dX5_ahead_107 : decode cX5_ahead 107 = .ok (.aload_n 0, 1) := by decide +kernel
theorem dX5_ahead_108 : decode cX5_ahead 108 = .ok (.getfield 7, 3) := by decide +kernel
theorem dX5_ahead_111 : decode cX5_ahead 111 = .ok (.iload 4, 2) := by decide +kernel
theorem dX5_ahead_113 : decode cX5_ahead 113 = .ok (.iaload, 1) := by decide +kernel
theorem dX5_ahead_114 : decode cX5_ahead 114 = .ok (.isub, 1) := by decide +kernel
theorem dX5_ahead_115 : decode cX5_ahead 115 = .ok (.ireturn, 1) := by decide +kernel
theorem dX5_soonBy_0 : decode cX5_soonBy 0 = .ok (.aload_n 0, 1) := by decide +kernel
theorem dX5_soonBy_1 : decode cX5_soonBy 1 = .ok (.getfield 7, 3) := by decide +kernel
theorem dX5_soonBy_4 : decode cX5_soonBy 4 = .ok (.iconst 0, 1) := by decide +kernel
theorem dX5_soonBy_5 : decode cX5_soonBy 5 = .ok (.aload_n 0, 1) := by decide +kernel
theorem dX5_soonBy_6 : decode cX5_soonBy 6 = .ok (.getfield 16, 3) := by decide +kernel
theorem dX5_soonBy_9 : decode cX5_soonBy 9 = .ok (.iconst 0, 1) := by decide +kernel
theorem dX5_soonBy_10 : decode cX5_soonBy 10 = .ok (.invokestatic 43, 3) := by decide +kernel
theorem dX5_soonBy_13 : decode cX5_soonBy 13 = .ok (.aload_n 0, 1) := by decide +kernel
theorem dX5_soonBy_14 : decode cX5_soonBy 14 = .ok (.getfield 16, 3) := by decide +kernel
theorem dX5_soonBy_17 : decode cX5_soonBy 17 = .ok (.iconst 5, 1) := by decide +kernel
theorem dX5_soonBy_18 : decode cX5_soonBy 18 = .ok (.iload_n 2, 1) := by decide +kernel
theorem dX5_soonBy_19 : decode cX5_soonBy 19 = .ok (.iastore, 1) := by decide +kernel
theorem dX5_soonBy_20 : decode cX5_soonBy 20 = .ok (.aload_n 0, 1) := by decide +kernel
theorem dX5_soonBy_21 : decode cX5_soonBy 21 = .ok (.getfield 7, 3) := by decide +kernel
theorem dX5_soonBy_24 : decode cX5_soonBy 24 = .ok (.iconst 2, 1) := by decide +kernel
theorem dX5_soonBy_25 : decode cX5_soonBy 25 = .ok (.iaload, 1) := by decide +kernel
theorem dX5_soonBy_26 : decode cX5_soonBy 26 = .ok (.aload_n 0, 1) := by decide +kernel
theorem dX5_soonBy_27 : decode cX5_soonBy 27 = .ok (.getfield 7, 3) := by decide +kernel
theorem dX5_soonBy_30 : decode cX5_soonBy 30 = .ok (.iload_n 1, 1) := by decide +kernel
theorem dX5_soonBy_31 : decode cX5_soonBy 31 = .ok (.invokestatic 203, 3) := by decide +kernel
theorem dX5_soonBy_34 : decode cX5_soonBy 34 = .ok (.aload_n 0, 1) := by decide +kernel
theorem dX5_soonBy_35 : decode cX5_soonBy 35 = .ok (.getfield 7, 3) := by decide +kernel
theorem dX5_soonBy_38 : decode cX5_soonBy 38 = .ok (.iconst 3, 1) := by decide +kernel
theorem dX5_soonBy_39 : decode cX5_soonBy 39 = .ok (.iaload, 1) := by decide +kernel
theorem dX5_soonBy_40 : decode cX5_soonBy 40 = .ok (.invokestatic 169, 3) := by decide +kernel
theorem dX5_soonBy_43 : decode cX5_soonBy 43 = .ok (.invokestatic 142, 3) := by decide +kernel
theorem dX5_soonBy_46 : decode cX5_soonBy 46 = .ok (.istore_n 3, 1) := by decide +kernel
theorem dX5_soonBy_47 : decode cX5_soonBy 47 = .ok (.iconst 1, 1) := by decide +kernel
theorem dX5_soonBy_48 : decode cX5_soonBy 48 = .ok (.istore 4, 2) := by decide +kernel
theorem dX5_soonBy_50 : decode cX5_soonBy 50 = .ok (.iload 4, 2) := by decide +kernel
theorem dX5_soonBy_52 : decode cX5_soonBy 52 = .ok (.bipush 100, 2) := by decide +kernel
theorem dX5_soonBy_54 : decode cX5_soonBy 54 = .ok (.if_icmp .ge 35, 3) := by decide +kernel
theorem dX5_soonBy_57 : decode cX5_soonBy 57 = .ok (.aload_n 0, 1) := by decide +kernel
theorem dX5_soonBy_58 : decode cX5_soonBy 58 = .ok (.aload_n 0, 1) := by decide +kernel
theorem dX5_soonBy_59 : decode cX5_soonBy 59 = .ok (.getfield 16, 3) := by decide +kernel
theorem dX5_soonBy_62 : decode cX5_soonBy 62 = .ok (.iload_n 1, 1) := by decide +kernel
theorem dX5_soonBy_63 : decode cX5_soonBy 63 = .ok (.invokevirtual 190, 3) := by decide +kernel
theorem dX5_soonBy_66 : decode cX5_soonBy 66 = .ok (.aload_n 0, 1) := by decide +kernel
theorem dX5_soonBy_67 : decode cX5_soonBy 67 = .ok (.getfield 16, 3) := by decide +kernel
theorem dX5_soonBy_70 : decode cX5_soonBy 70 = .ok (.iload_n 1, 1) := by decide +kernel
theorem dX5_soonBy_71 : decode cX5_soonBy 71 = .ok (.iconst 0, 1) := by decide +kernel
theorem dX5_soonBy_72 : decode cX5_soonBy 72 = .ok (.invokestatic 36, 3) := by decide +kernel
theorem dX5_soonBy_75 : decode cX5_soonBy 75 = .ok (.iaload, 1) := by decide +kernel
theorem dX5_soonBy_76 : decode cX5_soonBy 76 = .ok (.iload_n 3, 1) := by decide +kernel
theorem dX5_soonBy_77 : decode cX5_soonBy 77 = .ok (.if_icmp .ne 6, 3) := by decide +kernel
theorem dX5_soonBy_80 : decode cX5_soonBy 80 = .ok (.iload 4, 2) := by decide +kernel
theorem dX5_soonBy_82 : decode cX5_soonBy 82 = .ok (.ireturn, 1) := by decide +kernel
theorem dX5_soonBy_83 : decode cX5_soonBy 83 = .ok (.iinc 4 1, 3) := by decide +kernel
theorem dX5_soonBy_86 : decode cX5_soonBy 86 = .ok (.goto (-36), 3) := by decide +kernel
theorem dX5_soonBy_89 : decode cX5_soonBy 89 = .ok (.bipush (-4), 2) := by decide +kernel
theorem dX5_soonBy_91 : decode cX5_soonBy 91 = .ok (.ireturn, 1) := by decide +kernel
theorem dX5_soon_0 : decode cX5_soon 0 = .ok (.aload_n 0, 1) := by decide +kernel
theorem dX5_soon_1 : decode cX5_soon 1 = .ok (.iload_n 1, 1) := by decide +kernel
theorem dX5_soon_2 : decode cX5_soon 2 = .ok (.invokevirtual 193, 3) := by decide +kernel
theorem dX5_soon_5 : decode cX5_soon 5 = .ok (.ifCond .eq 21, 3) := by decide +kernel
theorem dX5_soon_8 : decode cX5_soon 8 = .ok (.iload_n 2, 1) := by decide +kernel
theorem dX5_soon_9 : decode cX5_soon 9 = .ok (.iconst 0, 1) := by decide +kernel
theorem dX5_soon_10 : decode cX5_soon 10 = .ok (.iconst 2, 1) := by decide +kernel
theorem dX5_soon_11 : decode cX5_soon 11 = .ok (.invokestatic 57, 3) := by decide +kernel
theorem dX5_soon_14 : decode cX5_soon 14 = .ok (.ifCond .eq 12, 3) := by decide +kernel
theorem dX5_soon_17 : decode cX5_soon 17 = .ok (.aload_n 0, 1) := by decide +kernel
theorem dX5_soon_18 : decode cX5_soon 18 = .ok (.iload_n 1, 1) := by decide +kernel
theorem dX5_soon_19 : decode cX5_soon 19 = .ok (.iload_n 2, 1) := by decide +kernel
theorem dX5_soon_20 : decode cX5_soon 20 = .ok (.invokevirtual 206, 3) := by decide +kernel
theorem dX5_soon_23 : decode cX5_soon 23 = .ok (.goto 4, 3) := by decide +kernel
theorem dX5_soon_26 : decode cX5_soon 26 = .ok (.iconst (-1), 1) := by decide +kernel
theorem dX5_soon_27 : decode cX5_soon 27 = .ok (.ireturn, 1) := by decide +kernel
theorem dX5_best_0 : decode cX5_best 0 = .ok (.aload_n 0, 1) := by decide +kernel
theorem dX5_best_1 : decode cX5_best 1 = .ok (.iload_n 1, 1) := by decide +kernel
theorem dX5_best_2 : decode cX5_best 2 = .ok (.invokevirtual 193, 3) := by decide +kernel
theorem dX5_best_5 : decode cX5_best 5 = .ok (.ifCond .ne 5, 3) := by decide +kernel
theorem dX5_best_8 : decode cX5_best 8 = .ok (.iconst (-1), 1) := by decide +kernel
theorem dX5_best_9 : decode cX5_best 9 = .ok (.ireturn, 1) := by decide +kernel
theorem dX5_best_10 : decode cX5_best 10 = .ok (.bipush (-4), 2) := by decide +kernel
theorem dX5_best_12 : decode cX5_best 12 = .ok (.istore_n 2, 1) := by decide +kernel
theorem dX5_best_13 : decode cX5_best 13 = .ok (.bipush 100, 2) := by decide +kernel
theorem dX5_best_15 : decode cX5_best 15 = .ok (.istore_n 3, 1) := by decide +kernel
theorem dX5_best_16 : decode cX5_best 16 = .ok (.iconst 0, 1) := by decide +kernel
theorem dX5_best_17 : decode cX5_best 17 = .ok (.istore 4, 2) := by decide +kernel
theorem dX5_best_19 : decode cX5_best 19 = .ok (.iload 4, 2) := by decide +kernel
theorem dX5_best_21 : decode cX5_best 21 = .ok (.iconst 3, 1) := by decide +kernel
theorem dX5_best_22 : decode cX5_best 22 = .ok (.if_icmp .ge 62, 3) := by decide +kernel
theorem dX5_best_25 : decode cX5_best 25 = .ok (.aload_n 0, 1) := by decide +kernel
theorem dX5_best_26 : decode cX5_best 26 = .ok (.iload_n 1, 1) := by decide +kernel
theorem dX5_best_27 : decode cX5_best 27 = .ok (.iload 4, 2) := by decide +kernel
theorem dX5_best_29 : decode cX5_best 29 = .ok (.invokevirtual 206, 3) := by decide +kernel
theorem dX5_best_32 : decode cX5_best 32 = .ok (.istore 5, 2) := by decide +kernel
theorem dX5_best_34 : decode cX5_best 34 = .ok (.iload 5, 2) := by decide +kernel
theorem dX5_best_36 : decode cX5_best 36 = .ok (.bipush (-4), 2) := by decide +kernel
theorem dX5_best_38 : decode cX5_best 38 = .ok (.if_icmp .eq 13, 3) := by decide +kernel
theorem dX5_best_41 : decode cX5_best 41 = .ok (.iload 5, 2) := by decide +kernel
theorem dX5_best_43 : decode cX5_best 43 = .ok (.iload_n 3, 1) := by decide +kernel
theorem dX5_best_44 : decode cX5_best 44 = .ok (.if_icmp .ge 7, 3) := by decide +kernel
theorem dX5_best_47 : decode cX5_best 47 = .ok (.iconst 1, 1) := by decide +kernel
theorem dX5_best_48 : decode cX5_best 48 = .ok (.goto 4, 3) := by decide +kernel
theorem dX5_best_51 : decode cX5_best 51 = .ok (.iconst 0, 1) := by decide +kernel
theorem dX5_best_52 : decode cX5_best 52 = .ok (.istore 6, 2) := by decide +kernel
theorem dX5_best_54 : decode cX5_best 54 = .ok (.iload 6, 2) := by decide +kernel
theorem dX5_best_56 : decode cX5_best 56 = .ok (.ifCond .eq 8, 3) := by decide +kernel
theorem dX5_best_59 : decode cX5_best 59 = .ok (.iload 4, 2) := by decide +kernel
theorem dX5_best_61 : decode cX5_best 61 = .ok (.goto 4, 3) := by decide +kernel
theorem dX5_best_64 : decode cX5_best 64 = .ok (.iload_n 2, 1) := by decide +kernel
theorem dX5_best_65 : decode cX5_best 65 = .ok (.istore_n 2, 1) := by decide +kernel
theorem dX5_best_66 : decode cX5_best 66 = .ok (.iload 6, 2) := by decide +kernel
theorem dX5_best_68 : decode cX5_best 68 = .ok (.ifCond .eq 8, 3) := by decide +kernel
theorem dX5_best_71 : decode cX5_best 71 = .ok (.iload 5, 2) := by decide +kernel
theorem dX5_best_73 : decode cX5_best 73 = .ok (.goto 4, 3) := by decide +kernel
theorem dX5_best_76 : decode cX5_best 76 = .ok (.iload_n 3, 1) := by decide +kernel
theorem dX5_best_77 : decode cX5_best 77 = .ok (.istore_n 3, 1) := by decide +kernel
theorem dX5_best_78 : decode cX5_best 78 = .ok (.iinc 4 1, 3) := by decide +kernel
theorem dX5_best_81 : decode cX5_best 81 = .ok (.goto (-62), 3) := by decide +kernel
theorem dX5_best_84 : decode cX5_best 84 = .ok (.iload_n 2, 1) := by decide +kernel
theorem dX5_best_85 : decode cX5_best 85 = .ok (.ireturn, 1) := by decide +kernel
theorem dX5_count_0 : decode cX5_count 0 = .ok (.sipush 999, 3) := by decide +kernel
theorem dX5_count_3 : decode cX5_count 3 = .ok (.istore_n 2, 1) := by decide +kernel
theorem dX5_count_4 : decode cX5_count 4 = .ok (.iconst 0, 1) := by decide +kernel
theorem dX5_count_5 : decode cX5_count 5 = .ok (.istore_n 3, 1) := by decide +kernel
theorem dX5_count_6 : decode cX5_count 6 = .ok (.iconst 0, 1) := by decide +kernel
theorem dX5_count_7 : decode cX5_count 7 = .ok (.istore 4, 2) := by decide +kernel
theorem dX5_count_9 : decode cX5_count 9 = .ok (.iload 4, 2) := by decide +kernel
theorem dX5_count_11 : decode cX5_count 11 = .ok (.aload_n 0, 1) := by decide +kernel
theorem dX5_count_12 : decode cX5_count 12 = .ok (.getfield 7, 3) := by decide +kernel
theorem dX5_count_15 : decode cX5_count 15 = .ok (.iconst 0, 1) := by decide +kernel
theorem dX5_count_16 : decode cX5_count 16 = .ok (.iaload, 1) := by decide +kernel
theorem dX5_count_17 : decode cX5_count 17 = .ok (.if_icmp .ge 39, 3) := by decide +kernel
theorem dX5_count_20 : decode cX5_count 20 = .ok (.iload_n 2, 1) := by decide +kernel
theorem dX5_count_21 : decode cX5_count 21 = .ok (.aload_n 0, 1) := by decide +kernel
theorem dX5_count_22 : decode cX5_count 22 = .ok (.getfield 7, 3) := by decide +kernel
theorem dX5_count_25 : decode cX5_count 25 = .ok (.iload 4, 2) := by decide +kernel
theorem dX5_count_27 : decode cX5_count 27 = .ok (.iconst 0, 1) := by decide +kernel
theorem dX5_count_28 : decode cX5_count 28 = .ok (.invokestatic 36, 3) := by decide +kernel
theorem dX5_count_31 : decode cX5_count 31 = .ok (.iaload, 1) := by decide +kernel
theorem dX5_count_32 : decode cX5_count 32 = .ok (.invokestatic 169, 3) := by decide +kernel
theorem dX5_count_35 : decode cX5_count 35 = .ok (.istore_n 2, 1) := by decide +kernel
theorem dX5_count_36 : decode cX5_count 36 = .ok (.iload_n 3, 1) := by decide +kernel
theorem dX5_count_37 : decode cX5_count 37 = .ok (.aload_n 0, 1) := by decide +kernel
theorem dX5_count_38 : decode cX5_count 38 = .ok (.getfield 7, 3) := by decide +kernel
theorem dX5_count_41 : decode cX5_count 41 = .ok (.iload 4, 2) := by decide +kernel
theorem dX5_count_43 : decode cX5_count 43 = .ok (.iconst 2, 1) := by decide +kernel
theorem dX5_count_44 : decode cX5_count 44 = .ok (.invokestatic 36, 3) := by decide +kernel
theorem dX5_count_47 : decode cX5_count 47 = .ok (.iaload, 1) := by decide +kernel
theorem dX5_count_48 : decode cX5_count 48 = .ok (.iadd, 1) := by decide +kernel
theorem dX5_count_49 : decode cX5_count 49 = .ok (.istore_n 3, 1) := by decide +kernel
theorem dX5_count_50 : decode cX5_count 50 = .ok (.iinc 4 1, 3) := by decide +kernel
theorem dX5_count_53 : decode cX5_count 53 = .ok (.goto (-44), 3) := by decide +kernel
theorem dX5_count_56 : decode cX5_count 56 = .ok (.iload_n 1, 1) := by decide +kernel
theorem dX5_count_57 : decode cX5_count 57 = .ok (.tableswitch 98 0 11 #[63, 63, 63, 63, 63, 63, 70, 72, 74, 81, 88, 93], 63) := by decide +kernel
theorem dX5_count_120 : decode cX5_count 120 = .ok (.aload_n 0, 1) := by decide +kernel
theorem dX5_count_121 : decode cX5_count 121 = .ok (.getfield 7, 3) := by decide +kernel
theorem dX5_count_124 : decode cX5_count 124 = .ok (.iload_n 1, 1) := by decide +kernel
theorem dX5_count_125 : decode cX5_count 125 = .ok (.iaload, 1) := by decide +kernel
theorem dX5_count_126 : decode cX5_count 126 = .ok (.ireturn, 1) := by decide +kernel
theorem dX5_count_127 : decode cX5_count 127 = .ok (.iload_n 2, 1) := by decide +kernel
theorem dX5_count_128 : decode cX5_count 128 = .ok (.ireturn, 1) := by decide +kernel
theorem dX5_count_129 : decode cX5_count 129 = .ok (.iload_n 3, 1) := by decide +kernel
theorem dX5_count_130 : decode cX5_count 130 = .ok (.ireturn, 1) := by decide +kernel
theorem dX5_count_131 : decode cX5_count 131 = .ok (.aload_n 0, 1) := by decide +kernel
theorem dX5_count_132 : decode cX5_count 132 = .ok (.bipush 7, 2) := by decide +kernel
theorem dX5_count_134 : decode cX5_count 134 = .ok (.invokevirtual 186, 3) := by decide +kernel
theorem dX5_count_137 : decode cX5_count 137 = .ok (.ireturn, 1) := by decide +kernel
theorem dX5_count_138 : decode cX5_count 138 = .ok (.aload_n 0, 1) := by decide +kernel
theorem dX5_count_139 : decode cX5_count 139 = .ok (.bipush 8, 2) := by decide +kernel
theorem dX5_count_141 : decode cX5_count 141 = .ok (.invokevirtual 186, 3) := by decide +kernel
theorem dX5_count_144 : decode cX5_count 144 = .ok (.ireturn, 1) := by decide +kernel
theorem dX5_count_145 : decode cX5_count 145 = .ok (.aload_n 0, 1) := by decide +kernel
theorem dX5_count_146 : decode cX5_count 146 = .ok (.getfield 47, 3) := by decide +kernel
theorem dX5_count_149 : decode cX5_count 149 = .ok (.ireturn, 1) := by decide +kernel
theorem dX5_count_150 : decode cX5_count 150 = .ok (.aload_n 0, 1) := by decide +kernel
theorem dX5_count_151 : decode cX5_count 151 = .ok (.getfield 54, 3) := by decide +kernel
theorem dX5_count_154 : decode cX5_count 154 = .ok (.ireturn, 1) := by decide +kernel
theorem dX5_count_155 : decode cX5_count 155 = .ok (.iconst (-1), 1) := by decide +kernel
theorem dX5_count_156 : decode cX5_count 156 = .ok (.ireturn, 1) := by decide +kernel
theorem dJ9_max_7cf53_0 : decode cJ9_max_7cf53 0 = .ok (.iload_n 0, 1) := by decide +kernel
theorem dJ9_max_7cf53_1 : decode cJ9_max_7cf53 1 = .ok (.iload_n 1, 1) := by decide +kernel
theorem dJ9_max_7cf53_2 : decode cJ9_max_7cf53 2 = .ok (.if_icmp .lt 7, 3) := by decide +kernel
theorem dJ9_max_7cf53_5 : decode cJ9_max_7cf53 5 = .ok (.iload_n 0, 1) := by decide +kernel
theorem dJ9_max_7cf53_6 : decode cJ9_max_7cf53 6 = .ok (.goto 4, 3) := by decide +kernel
theorem dJ9_max_7cf53_9 : decode cJ9_max_7cf53 9 = .ok (.iload_n 1, 1) := by decide +kernel
theorem dJ9_max_7cf53_10 : decode cJ9_max_7cf53 10 = .ok (.ireturn, 1) := by decide +kernel
theorem dJ9_min_7cf53_0 : decode cJ9_min_7cf53 0 = .ok (.iload_n 0, 1) := by decide +kernel
theorem dJ9_min_7cf53_1 : decode cJ9_min_7cf53 1 = .ok (.iload_n 1, 1) := by decide +kernel
theorem dJ9_min_7cf53_2 : decode cJ9_min_7cf53 2 = .ok (.if_icmp .gt 7, 3) := by decide +kernel
theorem dJ9_min_7cf53_5 : decode cJ9_min_7cf53 5 = .ok (.iload_n 0, 1) := by decide +kernel
theorem dJ9_min_7cf53_6 : decode cJ9_min_7cf53 6 = .ok (.goto 4, 3) := by decide +kernel
theorem dJ9_min_7cf53_9 : decode cJ9_min_7cf53 9 = .ok (.iload_n 1, 1) := by decide +kernel
theorem dJ9_min_7cf53_10 : decode cJ9_min_7cf53 10 = .ok (.ireturn, 1) := by decide +kernel
theorem dJ0_length_8abf5_0 : decode cJ0_length_8abf5 0 = .ok (.aload_n 0, 1) := by decide +kernel
theorem dJ0_length_8abf5_1 : decode cJ0_length_8abf5 1 = .ok (.getfield 9, 3) := by decide +kernel
theorem dJ0_length_8abf5_4 : decode cJ0_length_8abf5 4 = .ok (.arraylength, 1) := by decide +kernel
theorem dJ0_length_8abf5_5 : decode cJ0_length_8abf5 5 = .ok (.aload_n 0, 1) := by decide +kernel
theorem dJ0_length_8abf5_6 : decode cJ0_length_8abf5 6 = .ok (.invokevirtual 335, 3) := by decide +kernel
theorem dJ0_length_8abf5_9 : decode cJ0_length_8abf5 9 = .ok (.ishr, 1) := by decide +kernel
theorem dJ0_length_8abf5_10 : decode cJ0_length_8abf5 10 = .ok (.ireturn, 1) := by decide +kernel
theorem dJ0_charAt_5068e_0 : decode cJ0_charAt_5068e 0 = .ok (.aload_n 0, 1) := by decide +kernel
theorem dJ0_charAt_5068e_1 : decode cJ0_charAt_5068e 1 = .ok (.invokevirtual 492, 3) := by decide +kernel
theorem dJ0_charAt_5068e_4 : decode cJ0_charAt_5068e 4 = .ok (.ifCond .eq 12, 3) := by decide +kernel
theorem dJ0_charAt_5068e_7 : decode cJ0_charAt_5068e 7 = .ok (.aload_n 0, 1) := by decide +kernel
theorem dJ0_charAt_5068e_8 : decode cJ0_charAt_5068e 8 = .ok (.getfield 9, 3) := by decide +kernel
theorem dJ0_charAt_5068e_11 : decode cJ0_charAt_5068e 11 = .ok (.iload_n 1, 1) := by decide +kernel
theorem dJ0_charAt_5068e_12 : decode cJ0_charAt_5068e 12 = .ok (.invokestatic 495, 3) := by decide +kernel
theorem dJ0_charAt_5068e_15 : decode cJ0_charAt_5068e 15 = .ok (.ireturn, 1) := by decide +kernel
theorem dJ0_charAt_5068e_16 : decode cJ0_charAt_5068e 16 = .ok (.aload_n 0, 1) := by decide +kernel
theorem dJ0_charAt_5068e_17 : decode cJ0_charAt_5068e 17 = .ok (.getfield 9, 3) := by decide +kernel
theorem dJ0_charAt_5068e_20 : decode cJ0_charAt_5068e 20 = .ok (.iload_n 1, 1) := by decide +kernel
theorem dJ0_charAt_5068e_21 : decode cJ0_charAt_5068e 21 = .ok (.invokestatic 498, 3) := by decide +kernel
theorem dJ0_charAt_5068e_24 : decode cJ0_charAt_5068e 24 = .ok (.ireturn, 1) := by decide +kernel
theorem dJ0_coder_7d493_0 : decode cJ0_coder_7d493 0 = .ok (.getstatic 38, 3) := by decide +kernel
theorem dJ0_coder_7d493_3 : decode cJ0_coder_7d493 3 = .ok (.ifCond .eq 10, 3) := by decide +kernel
theorem dJ0_coder_7d493_6 : decode cJ0_coder_7d493 6 = .ok (.aload_n 0, 1) := by decide +kernel
theorem dJ0_coder_7d493_7 : decode cJ0_coder_7d493 7 = .ok (.getfield 15, 3) := by decide +kernel
theorem dJ0_coder_7d493_10 : decode cJ0_coder_7d493 10 = .ok (.goto 4, 3) := by decide +kernel
theorem dJ0_coder_7d493_13 : decode cJ0_coder_7d493 13 = .ok (.iconst 1, 1) := by decide +kernel
theorem dJ0_coder_7d493_14 : decode cJ0_coder_7d493 14 = .ok (.ireturn, 1) := by decide +kernel
theorem dJ0_isLatin1_aae02_0 : decode cJ0_isLatin1_aae02 0 = .ok (.getstatic 38, 3) := by decide +kernel
theorem dJ0_isLatin1_aae02_3 : decode cJ0_isLatin1_aae02 3 = .ok (.ifCond .eq 14, 3) := by decide +kernel
theorem dJ0_isLatin1_aae02_6 : decode cJ0_isLatin1_aae02 6 = .ok (.aload_n 0, 1) := by decide +kernel
theorem dJ0_isLatin1_aae02_7 : decode cJ0_isLatin1_aae02 7 = .ok (.getfield 15, 3) := by decide +kernel
theorem dJ0_isLatin1_aae02_10 : decode cJ0_isLatin1_aae02 10 = .ok (.ifCond .ne 7, 3) := by decide +kernel
theorem dJ0_isLatin1_aae02_13 : decode cJ0_isLatin1_aae02 13 = .ok (.iconst 1, 1) := by decide +kernel
theorem dJ0_isLatin1_aae02_14 : decode cJ0_isLatin1_aae02 14 = .ok (.goto 4, 3) := by decide +kernel
theorem dJ0_isLatin1_aae02_17 : decode cJ0_isLatin1_aae02 17 = .ok (.iconst 0, 1) := by decide +kernel
theorem dJ0_isLatin1_aae02_18 : decode cJ0_isLatin1_aae02 18 = .ok (.ireturn, 1) := by decide +kernel
theorem dJ0_checkIndex_df160_0 : decode cJ0_checkIndex_df160 0 = .ok (.iload_n 0, 1) := by decide +kernel
theorem dJ0_checkIndex_df160_1 : decode cJ0_checkIndex_df160 1 = .ok (.iload_n 1, 1) := by decide +kernel
theorem dJ0_checkIndex_df160_2 : decode cJ0_checkIndex_df160 2 = .ok (.getstatic 1053, 3) := by decide +kernel
theorem dJ0_checkIndex_df160_5 : decode cJ0_checkIndex_df160 5 = .ok (.invokestatic 1059, 3) := by decide +kernel
theorem dJ0_checkIndex_df160_8 : decode cJ0_checkIndex_df160 8 = .ok (.pop, 1) := by decide +kernel
theorem dJ0_checkIndex_df160_9 : decode cJ0_checkIndex_df160 9 = .ok (.return_, 1) := by decide +kernel
theorem dJ1_charAt_3b067_0 : decode cJ1_charAt_3b067 0 = .ok (.iload_n 1, 1) := by decide +kernel
theorem dJ1_charAt_3b067_1 : decode cJ1_charAt_3b067 1 = .ok (.aload_n 0, 1) := by decide +kernel
theorem dJ1_charAt_3b067_2 : decode cJ1_charAt_3b067 2 = .ok (.arraylength, 1) := by decide +kernel
theorem dJ1_charAt_3b067_3 : decode cJ1_charAt_3b067 3 = .ok (.invokestatic 9, 3) := by decide +kernel
theorem dJ1_charAt_3b067_6 : decode cJ1_charAt_3b067 6 = .ok (.aload_n 0, 1) := by decide +kernel
theorem dJ1_charAt_3b067_7 : decode cJ1_charAt_3b067 7 = .ok (.iload_n 1, 1) := by decide +kernel
theorem dJ1_charAt_3b067_8 : decode cJ1_charAt_3b067 8 = .ok (.baload, 1) := by decide +kernel
theorem dJ1_charAt_3b067_9 : decode cJ1_charAt_3b067 9 = .ok (.sipush 255, 3) := by decide +kernel
theorem dJ1_charAt_3b067_12 : decode cJ1_charAt_3b067 12 = .ok (.iand, 1) := by decide +kernel
theorem dJ1_charAt_3b067_13 : decode cJ1_charAt_3b067 13 = .ok (.i2c, 1) := by decide +kernel
theorem dJ1_charAt_3b067_14 : decode cJ1_charAt_3b067 14 = .ok (.ireturn, 1) := by decide +kernel
theorem dJ2_getChar_3b067_0 : decode cJ2_getChar_3b067 0 = .ok (.getstatic 44, 3) := by decide +kernel
theorem dJ2_getChar_3b067_3 : decode cJ2_getChar_3b067 3 = .ok (.ifCond .ne 25, 3) := by decide +kernel
theorem dJ2_getChar_3b067_6 : decode cJ2_getChar_3b067 6 = .ok (.iload_n 1, 1) := by decide +kernel
theorem dJ2_getChar_3b067_7 : decode cJ2_getChar_3b067 7 = .ok (.ifCond .lt 11, 3) := by decide +kernel
theorem dJ2_getChar_3b067_10 : decode cJ2_getChar_3b067 10 = .ok (.iload_n 1, 1) := by decide +kernel
theorem dJ2_getChar_3b067_11 : decode cJ2_getChar_3b067 11 = .ok (.aload_n 0, 1) := by decide +kernel
theorem dJ2_getChar_3b067_12 : decode cJ2_getChar_3b067 12 = .ok (.invokestatic 48, 3) := by decide +kernel
theorem dJ2_getChar_3b067_15 : decode cJ2_getChar_3b067 15 = .ok (.if_icmp .lt 13, 3) := by decide +kernel
theorem dJ2_getChar_3b067_18 : decode cJ2_getChar_3b067 18 = .ok (.new 52, 3) := by decide +kernel
theorem dJ2_getChar_3b067_21 : decode cJ2_getChar_3b067 21 = .ok (.dup, 1) := by decide +kernel
theorem dJ2_getChar_3b067_22 : decode cJ2_getChar_3b067 22 = .ok (.ldc 54, 2) := by decide +kernel
theorem dJ2_getChar_3b067_24 : decode cJ2_getChar_3b067 24 = .ok (.invokespecial 56, 3) := by decide +kernel
theorem dJ2_getChar_3b067_27 : decode cJ2_getChar_3b067 27 = .ok (.athrow, 1) := by decide +kernel
theorem dJ2_getChar_3b067_28 : decode cJ2_getChar_3b067 28 = .ok (.iload_n 1, 1) := by decide +kernel
theorem dJ2_getChar_3b067_29 : decode cJ2_getChar_3b067 29 = .ok (.iconst 1, 1) := by decide +kernel
theorem dJ2_getChar_3b067_30 : decode cJ2_getChar_3b067 30 = .ok (.ishl, 1) := by decide +kernel
theorem dJ2_getChar_3b067_31 : decode cJ2_getChar_3b067 31 = .ok (.istore_n 1, 1) := by decide +kernel
theorem dJ2_getChar_3b067_32 : decode cJ2_getChar_3b067 32 = .ok (.aload_n 0, 1) := by decide +kernel
theorem dJ2_getChar_3b067_33 : decode cJ2_getChar_3b067 33 = .ok (.iload_n 1, 1) := by decide +kernel
theorem dJ2_getChar_3b067_34 : decode cJ2_getChar_3b067 34 = .ok (.iinc 1 1, 3) := by decide +kernel
theorem dJ2_getChar_3b067_37 : decode cJ2_getChar_3b067 37 = .ok (.baload, 1) := by decide +kernel
theorem dJ2_getChar_3b067_38 : decode cJ2_getChar_3b067 38 = .ok (.sipush 255, 3) := by decide +kernel
theorem dJ2_getChar_3b067_41 : decode cJ2_getChar_3b067 41 = .ok (.iand, 1) := by decide +kernel
theorem dJ2_getChar_3b067_42 : decode cJ2_getChar_3b067 42 = .ok (.getstatic 59, 3) := by decide +kernel
theorem dJ2_getChar_3b067_45 : decode cJ2_getChar_3b067 45 = .ok (.ishl, 1) := by decide +kernel
theorem dJ2_getChar_3b067_46 : decode cJ2_getChar_3b067 46 = .ok (.aload_n 0, 1) := by decide +kernel
theorem dJ2_getChar_3b067_47 : decode cJ2_getChar_3b067 47 = .ok (.iload_n 1, 1) := by decide +kernel
theorem dJ2_getChar_3b067_48 : decode cJ2_getChar_3b067 48 = .ok (.baload, 1) := by decide +kernel
theorem dJ2_getChar_3b067_49 : decode cJ2_getChar_3b067 49 = .ok (.sipush 255, 3) := by decide +kernel
theorem dJ2_getChar_3b067_52 : decode cJ2_getChar_3b067 52 = .ok (.iand, 1) := by decide +kernel
theorem dJ2_getChar_3b067_53 : decode cJ2_getChar_3b067 53 = .ok (.getstatic 63, 3) := by decide +kernel
theorem dJ2_getChar_3b067_56 : decode cJ2_getChar_3b067 56 = .ok (.ishl, 1) := by decide +kernel
theorem dJ2_getChar_3b067_57 : decode cJ2_getChar_3b067 57 = .ok (.ior, 1) := by decide +kernel
theorem dJ2_getChar_3b067_58 : decode cJ2_getChar_3b067 58 = .ok (.i2c, 1) := by decide +kernel
theorem dJ2_getChar_3b067_59 : decode cJ2_getChar_3b067 59 = .ok (.ireturn, 1) := by decide +kernel
theorem dJ2_length_9d52b_0 : decode cJ2_length_9d52b 0 = .ok (.aload_n 0, 1) := by decide +kernel
theorem dJ2_length_9d52b_1 : decode cJ2_length_9d52b 1 = .ok (.arraylength, 1) := by decide +kernel
theorem dJ2_length_9d52b_2 : decode cJ2_length_9d52b 2 = .ok (.iconst 1, 1) := by decide +kernel
theorem dJ2_length_9d52b_3 : decode cJ2_length_9d52b 3 = .ok (.ishr, 1) := by decide +kernel
theorem dJ2_length_9d52b_4 : decode cJ2_length_9d52b 4 = .ok (.ireturn, 1) := by decide +kernel
theorem dJ2_charAt_3b067_0 : decode cJ2_charAt_3b067 0 = .ok (.iload_n 1, 1) := by decide +kernel
theorem dJ2_charAt_3b067_1 : decode cJ2_charAt_3b067 1 = .ok (.aload_n 0, 1) := by decide +kernel
theorem dJ2_charAt_3b067_2 : decode cJ2_charAt_3b067 2 = .ok (.invokestatic 67, 3) := by decide +kernel
theorem dJ2_charAt_3b067_5 : decode cJ2_charAt_3b067 5 = .ok (.aload_n 0, 1) := by decide +kernel
theorem dJ2_charAt_3b067_6 : decode cJ2_charAt_3b067 6 = .ok (.iload_n 1, 1) := by decide +kernel
theorem dJ2_charAt_3b067_7 : decode cJ2_charAt_3b067 7 = .ok (.invokestatic 71, 3) := by decide +kernel
theorem dJ2_charAt_3b067_10 : decode cJ2_charAt_3b067 10 = .ok (.ireturn, 1) := by decide +kernel
theorem dJ2_checkIndex_2214a_0 : decode cJ2_checkIndex_2214a 0 = .ok (.iload_n 0, 1) := by decide +kernel
theorem dJ2_checkIndex_2214a_1 : decode cJ2_checkIndex_2214a 1 = .ok (.aload_n 1, 1) := by decide +kernel
theorem dJ2_checkIndex_2214a_2 : decode cJ2_checkIndex_2214a 2 = .ok (.invokestatic 48, 3) := by decide +kernel
theorem dJ2_checkIndex_2214a_5 : decode cJ2_checkIndex_2214a 5 = .ok (.invokestatic 414, 3) := by decide +kernel
theorem dJ2_checkIndex_2214a_8 : decode cJ2_checkIndex_2214a 8 = .ok (.return_, 1) := by decide +kernel
theorem dJ3_checkIndex_8e157_0 : decode cJ3_checkIndex_8e157 0 = .ok (.iload_n 0, 1) := by decide +kernel
theorem dJ3_checkIndex_8e157_1 : decode cJ3_checkIndex_8e157 1 = .ok (.ifCond .lt 8, 3) := by decide +kernel
theorem dJ3_checkIndex_8e157_4 : decode cJ3_checkIndex_8e157 4 = .ok (.iload_n 0, 1) := by decide +kernel
theorem dJ3_checkIndex_8e157_5 : decode cJ3_checkIndex_8e157 5 = .ok (.iload_n 1, 1) := by decide +kernel
theorem dJ3_checkIndex_8e157_6 : decode cJ3_checkIndex_8e157 6 = .ok (.if_icmp .lt 10, 3) := by decide +kernel
theorem dJ3_checkIndex_8e157_9 : decode cJ3_checkIndex_8e157 9 = .ok (.aload_n 2, 1) := by decide +kernel
theorem dJ3_checkIndex_8e157_10 : decode cJ3_checkIndex_8e157 10 = .ok (.iload_n 0, 1) := by decide +kernel
theorem dJ3_checkIndex_8e157_11 : decode cJ3_checkIndex_8e157 11 = .ok (.iload_n 1, 1) := by decide +kernel
theorem dJ3_checkIndex_8e157_12 : decode cJ3_checkIndex_8e157 12 = .ok (.invokestatic 95, 3) := by decide +kernel
theorem dJ3_checkIndex_8e157_15 : decode cJ3_checkIndex_8e157 15 = .ok (.athrow, 1) := by decide +kernel
theorem dJ3_checkIndex_8e157_16 : decode cJ3_checkIndex_8e157 16 = .ok (.iload_n 0, 1) := by decide +kernel
theorem dJ3_checkIndex_8e157_17 : decode cJ3_checkIndex_8e157 17 = .ok (.ireturn, 1) := by decide +kernel
theorem dL_law_0 : decode cL_law 0 = .ok (.new 7, 3) := by decide +kernel
theorem dL_law_3 : decode cL_law 3 = .ok (.dup, 1) := by decide +kernel
theorem dL_law_4 : decode cL_law 4 = .ok (.invokespecial 9, 3) := by decide +kernel
theorem dL_law_7 : decode cL_law 7 = .ok (.astore_n 1, 1) := by decide +kernel
theorem dL_law_8 : decode cL_law 8 = .ok (.new 10, 3) := by decide +kernel
theorem dL_law_11 : decode cL_law 11 = .ok (.dup, 1) := by decide +kernel
theorem dL_law_12 : decode cL_law 12 = .ok (.invokespecial 12, 3) := by decide +kernel
theorem dL_law_15 : decode cL_law 15 = .ok (.astore_n 2, 1) := by decide +kernel
theorem dL_law_16 : decode cL_law 16 = .ok (.iconst 0, 1) := by decide +kernel
theorem dL_law_17 : decode cL_law 17 = .ok (.istore_n 3, 1) := by decide +kernel
theorem dL_law_18 : decode cL_law 18 = .ok (.iload_n 3, 1) := by decide +kernel
theorem dL_law_19 : decode cL_law 19 = .ok (.aload_n 0, 1) := by decide +kernel
theorem dL_law_20 : decode cL_law 20 = .ok (.arraylength, 1) := by decide +kernel
theorem dL_law_21 : decode cL_law 21 = .ok (.iconst 4, 1) := by decide +kernel
theorem dL_law_22 : decode cL_law 22 = .ok (.isub, 1) := by decide +kernel
theorem dL_law_23 : decode cL_law 23 = .ok (.if_icmp .gt 718, 3) := by decide +kernel
theorem dL_law_26 : decode cL_law 26 = .ok (.aload_n 0, 1) := by decide +kernel
theorem dL_law_27 : decode cL_law 27 = .ok (.iload_n 3, 1) := by decide +kernel
theorem dL_law_28 : decode cL_law 28 = .ok (.iaload, 1) := by decide +kernel
theorem dL_law_29 : decode cL_law 29 = .ok (.bipush 31, 2) := by decide +kernel
theorem dL_law_31 : decode cL_law 31 = .ok (.iand, 1) := by decide +kernel
theorem dL_law_32 : decode cL_law 32 = .ok (.tableswitch 703 0 20 #[100, 123, 136, 149, 162, 185, 218, 261, 304, 337, 360, 373, 406, 449, 472, 505, 548, 581, 624, 657, 680], 100) := by decide +kernel
theorem dL_law_132 : decode cL_law 132 = .ok (.aload_n 1, 1) := by decide +kernel
theorem dL_law_133 : decode cL_law 133 = .ok (.aload_n 0, 1) := by decide +kernel
theorem dL_law_134 : decode cL_law 134 = .ok (.iload_n 3, 1) := by decide +kernel
theorem dL_law_135 : decode cL_law 135 = .ok (.iconst 1, 1) := by decide +kernel
theorem dL_law_136 : decode cL_law 136 = .ok (.iadd, 1) := by decide +kernel
theorem dL_law_137 : decode cL_law 137 = .ok (.iaload, 1) := by decide +kernel
theorem dL_law_138 : decode cL_law 138 = .ok (.invokevirtual 13, 3) := by decide +kernel
theorem dL_law_141 : decode cL_law 141 = .ok (.aload_n 2, 1) := by decide +kernel
theorem dL_law_142 : decode cL_law 142 = .ok (.aload_n 0, 1) := by decide +kernel
theorem dL_law_143 : decode cL_law 143 = .ok (.iload_n 3, 1) := by decide +kernel
theorem dL_law_144 : decode cL_law 144 = .ok (.iconst 1, 1) := by decide +kernel
theorem dL_law_145 : decode cL_law 145 = .ok (.iadd, 1) := by decide +kernel
theorem dL_law_146 : decode cL_law 146 = .ok (.iaload, 1) := by decide +kernel
theorem dL_law_147 : decode cL_law 147 = .ok (.invokevirtual 17, 3) := by decide +kernel
theorem dL_law_150 : decode cL_law 150 = .ok (.if_icmp .eq 585, 3) := by decide +kernel
theorem dL_law_153 : decode cL_law 153 = .ok (.iconst 0, 1) := by decide +kernel
theorem dL_law_154 : decode cL_law 154 = .ok (.ireturn, 1) := by decide +kernel
theorem dL_law_155 : decode cL_law 155 = .ok (.aload_n 1, 1) := by decide +kernel
theorem dL_law_156 : decode cL_law 156 = .ok (.invokevirtual 18, 3) := by decide +kernel
theorem dL_law_159 : decode cL_law 159 = .ok (.aload_n 2, 1) := by decide +kernel
theorem dL_law_160 : decode cL_law 160 = .ok (.invokevirtual 22, 3) := by decide +kernel
theorem dL_law_163 : decode cL_law 163 = .ok (.if_icmp .eq 572, 3) := by decide +kernel
theorem dL_law_166 : decode cL_law 166 = .ok (.iconst 0, 1) := by decide +kernel
theorem dL_law_167 : decode cL_law 167 = .ok (.ireturn, 1) := by decide +kernel
theorem dL_law_168 : decode cL_law 168 = .ok (.aload_n 1, 1) := by decide +kernel
theorem dL_law_169 : decode cL_law 169 = .ok (.invokevirtual 23, 3) := by decide +kernel
theorem dL_law_172 : decode cL_law 172 = .ok (.aload_n 2, 1) := by decide +kernel
theorem dL_law_173 : decode cL_law 173 = .ok (.invokevirtual 26, 3) := by decide +kernel
theorem dL_law_176 : decode cL_law 176 = .ok (.if_icmp .eq 559, 3) := by decide +kernel
theorem dL_law_179 : decode cL_law 179 = .ok (.iconst 0, 1) := by decide +kernel
theorem dL_law_180 : decode cL_law 180 = .ok (.ireturn, 1) := by decide +kernel
theorem dL_law_181 : decode cL_law 181 = .ok (.aload_n 1, 1) := by decide +kernel
theorem dL_law_182 : decode cL_law 182 = .ok (.invokevirtual 27, 3) := by decide +kernel
theorem dL_law_185 : decode cL_law 185 = .ok (.aload_n 2, 1) := by decide +kernel
theorem dL_law_186 : decode cL_law 186 = .ok (.invokevirtual 30, 3) := by decide +kernel
theorem dL_law_189 : decode cL_law 189 = .ok (.if_icmp .eq 546, 3) := by decide +kernel
theorem dL_law_192 : decode cL_law 192 = .ok (.iconst 0, 1) := by decide +kernel
theorem dL_law_193 : decode cL_law 193 = .ok (.ireturn, 1) := by decide +kernel
theorem dL_law_194 : decode cL_law 194 = .ok (.aload_n 1, 1) := by decide +kernel
theorem dL_law_195 : decode cL_law 195 = .ok (.aload_n 0, 1) := by decide +kernel
theorem dL_law_196 : decode cL_law 196 = .ok (.iload_n 3, 1) := by decide +kernel
theorem dL_law_197 : decode cL_law 197 = .ok (.iconst 1, 1) := by decide +kernel
theorem dL_law_198 : decode cL_law 198 = .ok (.iadd, 1) := by decide +kernel
theorem dL_law_199 : decode cL_law 199 = .ok (.iaload, 1) := by decide +kernel
theorem dL_law_200 : decode cL_law 200 = .ok (.invokevirtual 31, 3) := by decide +kernel
theorem dL_law_203 : decode cL_law 203 = .ok (.aload_n 2, 1) := by decide +kernel
theorem dL_law_204 : decode cL_law 204 = .ok (.aload_n 0, 1) := by decide +kernel
theorem dL_law_205 : decode cL_law 205 = .ok (.iload_n 3, 1) := by decide +kernel
theorem dL_law_206 : decode cL_law 206 = .ok (.iconst 1, 1) := by decide +kernel
theorem dL_law_207 : decode cL_law 207 = .ok (.iadd, 1) := by decide +kernel
theorem dL_law_208 : decode cL_law 208 = .ok (.iaload, 1) := by decide +kernel
theorem dL_law_209 : decode cL_law 209 = .ok (.invokevirtual 34, 3) := by decide +kernel
theorem dL_law_212 : decode cL_law 212 = .ok (.if_icmp .eq 523, 3) := by decide +kernel
theorem dL_law_215 : decode cL_law 215 = .ok (.iconst 0, 1) := by decide +kernel
theorem dL_law_216 : decode cL_law 216 = .ok (.ireturn, 1) := by decide +kernel
theorem dL_law_217 : decode cL_law 217 = .ok (.aload_n 1, 1) := by decide +kernel
theorem dL_law_218 : decode cL_law 218 = .ok (.aload_n 0, 1) := by decide +kernel
theorem dL_law_219 : decode cL_law 219 = .ok (.iload_n 3, 1) := by decide +kernel
theorem dL_law_220 : decode cL_law 220 = .ok (.iconst 1, 1) := by decide +kernel
theorem dL_law_221 : decode cL_law 221 = .ok (.iadd, 1) := by decide +kernel
theorem dL_law_222 : decode cL_law 222 = .ok (.iaload, 1) := by decide +kernel
theorem dL_law_223 : decode cL_law 223 = .ok (.aload_n 0, 1) := by decide +kernel
theorem dL_law_224 : decode cL_law 224 = .ok (.iload_n 3, 1) := by decide +kernel
theorem dL_law_225 : decode cL_law 225 = .ok (.iconst 2, 1) := by decide +kernel
theorem dL_law_226 : decode cL_law 226 = .ok (.iadd, 1) := by decide +kernel
theorem dL_law_227 : decode cL_law 227 = .ok (.iaload, 1) := by decide +kernel
theorem dL_law_228 : decode cL_law 228 = .ok (.invokevirtual 35, 3) := by decide +kernel
theorem dL_law_231 : decode cL_law 231 = .ok (.aload_n 2, 1) := by decide +kernel
theorem dL_law_232 : decode cL_law 232 = .ok (.aload_n 0, 1) := by decide +kernel
theorem dL_law_233 : decode cL_law 233 = .ok (.iload_n 3, 1) := by decide +kernel
theorem dL_law_234 : decode cL_law 234 = .ok (.iconst 1, 1) := by decide +kernel
theorem dL_law_235 : decode cL_law 235 = .ok (.iadd, 1) := by decide +kernel
theorem dL_law_236 : decode cL_law 236 = .ok (.iaload, 1) := by decide +kernel
theorem dL_law_237 : decode cL_law 237 = .ok (.aload_n 0, 1) := by decide +kernel
theorem dL_law_238 : decode cL_law 238 = .ok (.iload_n 3, 1) := by decide +kernel
theorem dL_law_239 : decode cL_law 239 = .ok (.iconst 2, 1) := by decide +kernel
theorem dL_law_240 : decode cL_law 240 = .ok (.iadd, 1) := by decide +kernel
theorem dL_law_241 : decode cL_law 241 = .ok (.iaload, 1) := by decide +kernel
theorem dL_law_242 : decode cL_law 242 = .ok (.invokevirtual 39, 3) := by decide +kernel
theorem dL_law_245 : decode cL_law 245 = .ok (.if_icmp .eq 490, 3) := by decide +kernel
theorem dL_law_248 : decode cL_law 248 = .ok (.iconst 0, 1) := by decide +kernel
theorem dL_law_249 : decode cL_law 249 = .ok (.ireturn, 1) := by decide +kernel
theorem dL_law_250 : decode cL_law 250 = .ok (.aload_n 1, 1) := by decide +kernel
theorem dL_law_251 : decode cL_law 251 = .ok (.aload_n 0, 1) := by decide +kernel
theorem dL_law_252 : decode cL_law 252 = .ok (.iload_n 3, 1) := by decide +kernel
theorem dL_law_253 : decode cL_law 253 = .ok (.iconst 1, 1) := by decide +kernel
theorem dL_law_254 : decode cL_law 254 = .ok (.iadd, 1) := by decide +kernel
theorem dL_law_255 : decode cL_law 255 = .ok (.iaload, 1) := by decide +kernel
theorem dL_law_256 : decode cL_law 256 = .ok (.aload_n 0, 1) := by decide +kernel
theorem dL_law_257 : decode cL_law 257 = .ok (.iload_n 3, 1) := by decide +kernel
theorem dL_law_258 : decode cL_law 258 = .ok (.iconst 2, 1) := by decide +kernel
theorem dL_law_259 : decode cL_law 259 = .ok (.iadd, 1) := by decide +kernel
theorem dL_law_260 : decode cL_law 260 = .ok (.iaload, 1) := by decide +kernel
theorem dL_law_261 : decode cL_law 261 = .ok (.aload_n 0, 1) := by decide +kernel
theorem dL_law_262 : decode cL_law 262 = .ok (.iload_n 3, 1) := by decide +kernel
theorem dL_law_263 : decode cL_law 263 = .ok (.iconst 3, 1) := by decide +kernel
theorem dL_law_264 : decode cL_law 264 = .ok (.iadd, 1) := by decide +kernel
theorem dL_law_265 : decode cL_law 265 = .ok (.iaload, 1) := by decide +kernel
theorem dL_law_266 : decode cL_law 266 = .ok (.invokevirtual 40, 3) := by decide +kernel
theorem dL_law_269 : decode cL_law 269 = .ok (.aload_n 2, 1) := by decide +kernel
theorem dL_law_270 : decode cL_law 270 = .ok (.aload_n 0, 1) := by decide +kernel
theorem dL_law_271 : decode cL_law 271 = .ok (.iload_n 3, 1) := by decide +kernel
theorem dL_law_272 : decode cL_law 272 = .ok (.iconst 1, 1) := by decide +kernel
theorem dL_law_273 : decode cL_law 273 = .ok (.iadd, 1) := by decide +kernel
theorem dL_law_274 : decode cL_law 274 = .ok (.iaload, 1) := by decide +kernel
theorem dL_law_275 : decode cL_law 275 = .ok (.aload_n 0, 1) := by decide +kernel
theorem dL_law_276 : decode cL_law 276 = .ok (.iload_n 3, 1) := by decide +kernel
theorem dL_law_277 : decode cL_law 277 = .ok (.iconst 2, 1) := by decide +kernel
theorem dL_law_278 : decode cL_law 278 = .ok (.iadd, 1) := by decide +kernel
theorem dL_law_279 : decode cL_law 279 = .ok (.iaload, 1) := by decide +kernel
theorem dL_law_280 : decode cL_law 280 = .ok (.aload_n 0, 1) := by decide +kernel
theorem dL_law_281 : decode cL_law 281 = .ok (.iload_n 3, 1) := by decide +kernel
theorem dL_law_282 : decode cL_law 282 = .ok (.iconst 3, 1) := by decide +kernel
theorem dL_law_283 : decode cL_law 283 = .ok (.iadd, 1) := by decide +kernel
theorem dL_law_284 : decode cL_law 284 = .ok (.iaload, 1) := by decide +kernel
theorem dL_law_285 : decode cL_law 285 = .ok (.invokevirtual 44, 3) := by decide +kernel
theorem dL_law_288 : decode cL_law 288 = .ok (.if_icmp .eq 447, 3) := by decide +kernel
theorem dL_law_291 : decode cL_law 291 = .ok (.iconst 0, 1) := by decide +kernel
theorem dL_law_292 : decode cL_law 292 = .ok (.ireturn, 1) := by decide +kernel
theorem dL_law_293 : decode cL_law 293 = .ok (.aload_n 1, 1) := by decide +kernel
theorem dL_law_294 : decode cL_law 294 = .ok (.aload_n 0, 1) := by decide +kernel
theorem dL_law_295 : decode cL_law 295 = .ok (.iload_n 3, 1) := by decide +kernel
theorem dL_law_296 : decode cL_law 296 = .ok (.iconst 1, 1) := by decide +kernel
theorem dL_law_297 : decode cL_law 297 = .ok (.iadd, 1) := by decide +kernel
theorem dL_law_298 : decode cL_law 298 = .ok (.iaload, 1) := by decide +kernel
theorem dL_law_299 : decode cL_law 299 = .ok (.aload_n 0, 1) := by decide +kernel
theorem dL_law_300 : decode cL_law 300 = .ok (.iload_n 3, 1) := by decide +kernel
theorem dL_law_301 : decode cL_law 301 = .ok (.iconst 2, 1) := by decide +kernel
theorem dL_law_302 : decode cL_law 302 = .ok (.iadd, 1) := by decide +kernel
theorem dL_law_303 : decode cL_law 303 = .ok (.iaload, 1) := by decide +kernel
theorem dL_law_304 : decode cL_law 304 = .ok (.aload_n 0, 1) := by decide +kernel
theorem dL_law_305 : decode cL_law 305 = .ok (.iload_n 3, 1) := by decide +kernel
theorem dL_law_306 : decode cL_law 306 = .ok (.iconst 3, 1) := by decide +kernel
theorem dL_law_307 : decode cL_law 307 = .ok (.iadd, 1) := by decide +kernel
theorem dL_law_308 : decode cL_law 308 = .ok (.iaload, 1) := by decide +kernel
theorem dL_law_309 : decode cL_law 309 = .ok (.invokevirtual 45, 3) := by decide +kernel
theorem dL_law_312 : decode cL_law 312 = .ok (.aload_n 2, 1) := by decide +kernel
theorem dL_law_313 : decode cL_law 313 = .ok (.aload_n 0, 1) := by decide +kernel
theorem dL_law_314 : decode cL_law 314 = .ok (.iload_n 3, 1) := by decide +kernel
theorem dL_law_315 : decode cL_law 315 = .ok (.iconst 1, 1) := by decide +kernel
theorem dL_law_316 : decode cL_law 316 = .ok (.iadd, 1) := by decide +kernel
theorem dL_law_317 : decode cL_law 317 = .ok (.iaload, 1) := by decide +kernel
theorem dL_law_318 : decode cL_law 318 = .ok (.aload_n 0, 1) := by decide +kernel
theorem dL_law_319 : decode cL_law 319 = .ok (.iload_n 3, 1) := by decide +kernel
theorem dL_law_320 : decode cL_law 320 = .ok (.iconst 2, 1) := by decide +kernel
theorem dL_law_321 : decode cL_law 321 = .ok (.iadd, 1) := by decide +kernel
theorem dL_law_322 : decode cL_law 322 = .ok (.iaload, 1) := by decide +kernel
theorem dL_law_323 : decode cL_law 323 = .ok (.aload_n 0, 1) := by decide +kernel
theorem dL_law_324 : decode cL_law 324 = .ok (.iload_n 3, 1) := by decide +kernel
theorem dL_law_325 : decode cL_law 325 = .ok (.iconst 3, 1) := by decide +kernel
theorem dL_law_326 : decode cL_law 326 = .ok (.iadd, 1) := by decide +kernel
theorem dL_law_327 : decode cL_law 327 = .ok (.iaload, 1) := by decide +kernel
theorem dL_law_328 : decode cL_law 328 = .ok (.invokevirtual 48, 3) := by decide +kernel
theorem dL_law_331 : decode cL_law 331 = .ok (.if_icmp .eq 404, 3) := by decide +kernel
theorem dL_law_334 : decode cL_law 334 = .ok (.iconst 0, 1) := by decide +kernel
theorem dL_law_335 : decode cL_law 335 = .ok (.ireturn, 1) := by decide +kernel
theorem dL_law_336 : decode cL_law 336 = .ok (.aload_n 1, 1) := by decide +kernel
theorem dL_law_337 : decode cL_law 337 = .ok (.aload_n 0, 1) := by decide +kernel
theorem dL_law_338 : decode cL_law 338 = .ok (.iload_n 3, 1) := by decide +kernel
theorem dL_law_339 : decode cL_law 339 = .ok (.iconst 1, 1) := by decide +kernel
theorem dL_law_340 : decode cL_law 340 = .ok (.iadd, 1) := by decide +kernel
theorem dL_law_341 : decode cL_law 341 = .ok (.iaload, 1) := by decide +kernel
theorem dL_law_342 : decode cL_law 342 = .ok (.aload_n 0, 1) := by decide +kernel
theorem dL_law_343 : decode cL_law 343 = .ok (.iload_n 3, 1) := by decide +kernel
theorem dL_law_344 : decode cL_law 344 = .ok (.iconst 2, 1) := by decide +kernel
theorem dL_law_345 : decode cL_law 345 = .ok (.iadd, 1) := by decide +kernel
theorem dL_law_346 : decode cL_law 346 = .ok (.iaload, 1) := by decide +kernel
theorem dL_law_347 : decode cL_law 347 = .ok (.invokevirtual 49, 3) := by decide +kernel
theorem dL_law_350 : decode cL_law 350 = .ok (.aload_n 2, 1) := by decide +kernel
theorem dL_law_351 : decode cL_law 351 = .ok (.aload_n 0, 1) := by decide +kernel
theorem dL_law_352 : decode cL_law 352 = .ok (.iload_n 3, 1) := by decide +kernel
theorem dL_law_353 : decode cL_law 353 = .ok (.iconst 1, 1) := by decide +kernel
theorem dL_law_354 : decode cL_law 354 = .ok (.iadd, 1) := by decide +kernel
theorem dL_law_355 : decode cL_law 355 = .ok (.iaload, 1) := by decide +kernel
theorem dL_law_356 : decode cL_law 356 = .ok (.aload_n 0, 1) := by decide +kernel
theorem dL_law_357 : decode cL_law 357 = .ok (.iload_n 3, 1) := by decide +kernel
theorem dL_law_358 : decode cL_law 358 = .ok (.iconst 2, 1) := by decide +kernel
theorem dL_law_359 : decode cL_law 359 = .ok (.iadd, 1) := by decide +kernel
theorem dL_law_360 : decode cL_law 360 = .ok (.iaload, 1) := by decide +kernel
theorem dL_law_361 : decode cL_law 361 = .ok (.invokevirtual 52, 3) := by decide +kernel
theorem dL_law_364 : decode cL_law 364 = .ok (.if_icmp .eq 371, 3) := by decide +kernel
theorem dL_law_367 : decode cL_law 367 = .ok (.iconst 0, 1) := by decide +kernel
theorem dL_law_368 : decode cL_law 368 = .ok (.ireturn, 1) := by decide +kernel
theorem dL_law_369 : decode cL_law 369 = .ok (.aload_n 1, 1) := by decide +kernel
theorem dL_law_370 : decode cL_law 370 = .ok (.aload_n 0, 1) := by decide +kernel
theorem dL_law_371 : decode cL_law 371 = .ok (.iload_n 3, 1) := by decide +kernel
theorem dL_law_372 : decode cL_law 372 = .ok (.iconst 1, 1) := by decide +kernel
theorem dL_law_373 : decode cL_law 373 = .ok (.iadd, 1) := by decide +kernel
theorem dL_law_374 : decode cL_law 374 = .ok (.iaload, 1) := by decide +kernel
theorem dL_law_375 : decode cL_law 375 = .ok (.invokevirtual 53, 3) := by decide +kernel
theorem dL_law_378 : decode cL_law 378 = .ok (.aload_n 2, 1) := by decide +kernel
theorem dL_law_379 : decode cL_law 379 = .ok (.aload_n 0, 1) := by decide +kernel
theorem dL_law_380 : decode cL_law 380 = .ok (.iload_n 3, 1) := by decide +kernel
theorem dL_law_381 : decode cL_law 381 = .ok (.iconst 1, 1) := by decide +kernel
theorem dL_law_382 : decode cL_law 382 = .ok (.iadd, 1) := by decide +kernel
theorem dL_law_383 : decode cL_law 383 = .ok (.iaload, 1) := by decide +kernel
theorem dL_law_384 : decode cL_law 384 = .ok (.invokevirtual 56, 3) := by decide +kernel
theorem dL_law_387 : decode cL_law 387 = .ok (.if_icmp .eq 348, 3) := by decide +kernel
theorem dL_law_390 : decode cL_law 390 = .ok (.iconst 0, 1) := by decide +kernel
theorem dL_law_391 : decode cL_law 391 = .ok (.ireturn, 1) := by decide +kernel
theorem dL_law_392 : decode cL_law 392 = .ok (.aload_n 1, 1) := by decide +kernel
theorem dL_law_393 : decode cL_law 393 = .ok (.invokevirtual 57, 3) := by decide +kernel
theorem dL_law_396 : decode cL_law 396 = .ok (.aload_n 2, 1) := by decide +kernel
theorem dL_law_397 : decode cL_law 397 = .ok (.invokevirtual 60, 3) := by decide +kernel
theorem dL_law_400 : decode cL_law 400 = .ok (.if_icmp .eq 335, 3) := by decide +kernel
theorem dL_law_403 : decode cL_law 403 = .ok (.iconst 0, 1) := by decide +kernel
theorem dL_law_404 : decode cL_law 404 = .ok (.ireturn, 1) := by decide +kernel
theorem dL_law_405 : decode cL_law 405 = .ok (.aload_n 1, 1) := by decide +kernel
theorem dL_law_406 : decode cL_law 406 = .ok (.aload_n 0, 1) := by decide +kernel
theorem dL_law_407 : decode cL_law 407 = .ok (.iload_n 3, 1) := by decide +kernel
theorem dL_law_408 : decode cL_law 408 = .ok (.iconst 1, 1) := by decide +kernel
theorem dL_law_409 : decode cL_law 409 = .ok (.iadd, 1) := by decide +kernel
theorem dL_law_410 : decode cL_law 410 = .ok (.iaload, 1) := by decide +kernel
theorem dL_law_411 : decode cL_law 411 = .ok (.aload_n 0, 1) := by decide +kernel
theorem dL_law_412 : decode cL_law 412 = .ok (.iload_n 3, 1) := by decide +kernel
theorem dL_law_413 : decode cL_law 413 = .ok (.iconst 2, 1) := by decide +kernel
theorem dL_law_414 : decode cL_law 414 = .ok (.iadd, 1) := by decide +kernel
theorem dL_law_415 : decode cL_law 415 = .ok (.iaload, 1) := by decide +kernel
theorem dL_law_416 : decode cL_law 416 = .ok (.invokevirtual 61, 3) := by decide +kernel
theorem dL_law_419 : decode cL_law 419 = .ok (.aload_n 2, 1) := by decide +kernel
theorem dL_law_420 : decode cL_law 420 = .ok (.aload_n 0, 1) := by decide +kernel
theorem dL_law_421 : decode cL_law 421 = .ok (.iload_n 3, 1) := by decide +kernel
theorem dL_law_422 : decode cL_law 422 = .ok (.iconst 1, 1) := by decide +kernel
theorem dL_law_423 : decode cL_law 423 = .ok (.iadd, 1) := by decide +kernel
theorem dL_law_424 : decode cL_law 424 = .ok (.iaload, 1) := by decide +kernel
theorem dL_law_425 : decode cL_law 425 = .ok (.aload_n 0, 1) := by decide +kernel
theorem dL_law_426 : decode cL_law 426 = .ok (.iload_n 3, 1) := by decide +kernel
theorem dL_law_427 : decode cL_law 427 = .ok (.iconst 2, 1) := by decide +kernel
theorem dL_law_428 : decode cL_law 428 = .ok (.iadd, 1) := by decide +kernel
theorem dL_law_429 : decode cL_law 429 = .ok (.iaload, 1) := by decide +kernel
theorem dL_law_430 : decode cL_law 430 = .ok (.invokevirtual 64, 3) := by decide +kernel
theorem dL_law_433 : decode cL_law 433 = .ok (.if_icmp .eq 302, 3) := by decide +kernel
theorem dL_law_436 : decode cL_law 436 = .ok (.iconst 0, 1) := by decide +kernel
theorem dL_law_437 : decode cL_law 437 = .ok (.ireturn, 1) := by decide +kernel
theorem dL_law_438 : decode cL_law 438 = .ok (.aload_n 1, 1) := by decide +kernel
theorem dL_law_439 : decode cL_law 439 = .ok (.aload_n 0, 1) := by decide +kernel
theorem dL_law_440 : decode cL_law 440 = .ok (.iload_n 3, 1) := by decide +kernel
theorem dL_law_441 : decode cL_law 441 = .ok (.iconst 1, 1) := by decide +kernel
theorem dL_law_442 : decode cL_law 442 = .ok (.iadd, 1) := by decide +kernel
theorem dL_law_443 : decode cL_law 443 = .ok (.iaload, 1) := by decide +kernel
theorem dL_law_444 : decode cL_law 444 = .ok (.aload_n 0, 1) := by decide +kernel
theorem dL_law_445 : decode cL_law 445 = .ok (.iload_n 3, 1) := by decide +kernel
theorem dL_law_446 : decode cL_law 446 = .ok (.iconst 2, 1) := by decide +kernel
theorem dL_law_447 : decode cL_law 447 = .ok (.iadd, 1) := by decide +kernel
theorem dL_law_448 : decode cL_law 448 = .ok (.iaload, 1) := by decide +kernel
theorem dL_law_449 : decode cL_law 449 = .ok (.aload_n 0, 1) := by decide +kernel
theorem dL_law_450 : decode cL_law 450 = .ok (.iload_n 3, 1) := by decide +kernel
theorem dL_law_451 : decode cL_law 451 = .ok (.iconst 3, 1) := by decide +kernel
theorem dL_law_452 : decode cL_law 452 = .ok (.iadd, 1) := by decide +kernel
theorem dL_law_453 : decode cL_law 453 = .ok (.iaload, 1) := by decide +kernel
theorem dL_law_454 : decode cL_law 454 = .ok (.invokevirtual 65, 3) := by decide +kernel
theorem dL_law_457 : decode cL_law 457 = .ok (.aload_n 2, 1) := by decide +kernel
theorem dL_law_458 : decode cL_law 458 = .ok (.aload_n 0, 1) := by decide +kernel
theorem dL_law_459 : decode cL_law 459 = .ok (.iload_n 3, 1) := by decide +kernel
theorem dL_law_460 : decode cL_law 460 = .ok (.iconst 1, 1) := by decide +kernel
theorem dL_law_461 : decode cL_law 461 = .ok (.iadd, 1) := by decide +kernel
theorem dL_law_462 : decode cL_law 462 = .ok (.iaload, 1) := by decide +kernel
theorem dL_law_463 : decode cL_law 463 = .ok (.aload_n 0, 1) := by decide +kernel
theorem dL_law_464 : decode cL_law 464 = .ok (.iload_n 3, 1) := by decide +kernel
theorem dL_law_465 : decode cL_law 465 = .ok (.iconst 2, 1) := by decide +kernel
theorem dL_law_466 : decode cL_law 466 = .ok (.iadd, 1) := by decide +kernel
theorem dL_law_467 : decode cL_law 467 = .ok (.iaload, 1) := by decide +kernel
theorem dL_law_468 : decode cL_law 468 = .ok (.aload_n 0, 1) := by decide +kernel
theorem dL_law_469 : decode cL_law 469 = .ok (.iload_n 3, 1) := by decide +kernel
theorem dL_law_470 : decode cL_law 470 = .ok (.iconst 3, 1) := by decide +kernel
theorem dL_law_471 : decode cL_law 471 = .ok (.iadd, 1) := by decide +kernel
theorem dL_law_472 : decode cL_law 472 = .ok (.iaload, 1) := by decide +kernel
theorem dL_law_473 : decode cL_law 473 = .ok (.invokevirtual 68, 3) := by decide +kernel
theorem dL_law_476 : decode cL_law 476 = .ok (.if_icmp .eq 259, 3) := by decide +kernel
theorem dL_law_479 : decode cL_law 479 = .ok (.iconst 0, 1) := by decide +kernel
theorem dL_law_480 : decode cL_law 480 = .ok (.ireturn, 1) := by decide +kernel
theorem dL_law_481 : decode cL_law 481 = .ok (.aload_n 1, 1) := by decide +kernel
theorem dL_law_482 : decode cL_law 482 = .ok (.aload_n 0, 1) := by decide +kernel
theorem dL_law_483 : decode cL_law 483 = .ok (.iload_n 3, 1) := by decide +kernel
theorem dL_law_484 : decode cL_law 484 = .ok (.iconst 1, 1) := by decide +kernel
theorem dL_law_485 : decode cL_law 485 = .ok (.iadd, 1) := by decide +kernel
theorem dL_law_486 : decode cL_law 486 = .ok (.iaload, 1) := by decide +kernel
theorem dL_law_487 : decode cL_law 487 = .ok (.invokevirtual 69, 3) := by decide +kernel
theorem dL_law_490 : decode cL_law 490 = .ok (.aload_n 2, 1) := by decide +kernel
theorem dL_law_491 : decode cL_law 491 = .ok (.aload_n 0, 1) := by decide +kernel
theorem dL_law_492 : decode cL_law 492 = .ok (.iload_n 3, 1) := by decide +kernel
theorem dL_law_493 : decode cL_law 493 = .ok (.iconst 1, 1) := by decide +kernel
theorem dL_law_494 : decode cL_law 494 = .ok (.iadd, 1) := by decide +kernel
theorem dL_law_495 : decode cL_law 495 = .ok (.iaload, 1) := by decide +kernel
theorem dL_law_496 : decode cL_law 496 = .ok (.invokevirtual 72, 3) := by decide +kernel
theorem dL_law_499 : decode cL_law 499 = .ok (.if_icmp .eq 236, 3) := by decide +kernel
theorem dL_law_502 : decode cL_law 502 = .ok (.iconst 0, 1) := by decide +kernel
theorem dL_law_503 : decode cL_law 503 = .ok (.ireturn, 1) := by decide +kernel
theorem dL_law_504 : decode cL_law 504 = .ok (.aload_n 1, 1) := by decide +kernel
theorem dL_law_505 : decode cL_law 505 = .ok (.aload_n 0, 1) := by decide +kernel
theorem dL_law_506 : decode cL_law 506 = .ok (.iload_n 3, 1) := by decide +kernel
theorem dL_law_507 : decode cL_law 507 = .ok (.iconst 1, 1) := by decide +kernel
theorem dL_law_508 : decode cL_law 508 = .ok (.iadd, 1) := by decide +kernel
theorem dL_law_509 : decode cL_law 509 = .ok (.iaload, 1) := by decide +kernel
theorem dL_law_510 : decode cL_law 510 = .ok (.aload_n 0, 1) := by decide +kernel
theorem dL_law_511 : decode cL_law 511 = .ok (.iload_n 3, 1) := by decide +kernel
theorem dL_law_512 : decode cL_law 512 = .ok (.iconst 2, 1) := by decide +kernel
theorem dL_law_513 : decode cL_law 513 = .ok (.iadd, 1) := by decide +kernel
theorem dL_law_514 : decode cL_law 514 = .ok (.iaload, 1) := by decide +kernel
theorem dL_law_515 : decode cL_law 515 = .ok (.invokevirtual 73, 3) := by decide +kernel
theorem dL_law_518 : decode cL_law 518 = .ok (.aload_n 2, 1) := by decide +kernel
theorem dL_law_519 : decode cL_law 519 = .ok (.aload_n 0, 1) := by decide +kernel
theorem dL_law_520 : decode cL_law 520 = .ok (.iload_n 3, 1) := by decide +kernel
theorem dL_law_521 : decode cL_law 521 = .ok (.iconst 1, 1) := by decide +kernel
theorem dL_law_522 : decode cL_law 522 = .ok (.iadd, 1) := by decide +kernel
theorem dL_law_523 : decode cL_law 523 = .ok (.iaload, 1) := by decide +kernel
theorem dL_law_524 : decode cL_law 524 = .ok (.aload_n 0, 1) := by decide +kernel
theorem dL_law_525 : decode cL_law 525 = .ok (.iload_n 3, 1) := by decide +kernel
theorem dL_law_526 : decode cL_law 526 = .ok (.iconst 2, 1) := by decide +kernel
theorem dL_law_527 : decode cL_law 527 = .ok (.iadd, 1) := by decide +kernel
theorem dL_law_528 : decode cL_law 528 = .ok (.iaload, 1) := by decide +kernel
theorem dL_law_529 : decode cL_law 529 = .ok (.invokevirtual 76, 3) := by decide +kernel
theorem dL_law_532 : decode cL_law 532 = .ok (.if_icmp .eq 203, 3) := by decide +kernel
theorem dL_law_535 : decode cL_law 535 = .ok (.iconst 0, 1) := by decide +kernel
theorem dL_law_536 : decode cL_law 536 = .ok (.ireturn, 1) := by decide +kernel
theorem dL_law_537 : decode cL_law 537 = .ok (.aload_n 1, 1) := by decide +kernel
theorem dL_law_538 : decode cL_law 538 = .ok (.aload_n 0, 1) := by decide +kernel
theorem dL_law_539 : decode cL_law 539 = .ok (.iload_n 3, 1) := by decide +kernel
theorem dL_law_540 : decode cL_law 540 = .ok (.iconst 1, 1) := by decide +kernel
theorem dL_law_541 : decode cL_law 541 = .ok (.iadd, 1) := by decide +kernel
theorem dL_law_542 : decode cL_law 542 = .ok (.iaload, 1) := by decide +kernel
theorem dL_law_543 : decode cL_law 543 = .ok (.aload_n 0, 1) := by decide +kernel
theorem dL_law_544 : decode cL_law 544 = .ok (.iload_n 3, 1) := by decide +kernel
theorem dL_law_545 : decode cL_law 545 = .ok (.iconst 2, 1) := by decide +kernel
theorem dL_law_546 : decode cL_law 546 = .ok (.iadd, 1) := by decide +kernel
theorem dL_law_547 : decode cL_law 547 = .ok (.iaload, 1) := by decide +kernel
theorem dL_law_548 : decode cL_law 548 = .ok (.aload_n 0, 1) := by decide +kernel
theorem dL_law_549 : decode cL_law 549 = .ok (.iload_n 3, 1) := by decide +kernel
theorem dL_law_550 : decode cL_law 550 = .ok (.iconst 3, 1) := by decide +kernel
theorem dL_law_551 : decode cL_law 551 = .ok (.iadd, 1) := by decide +kernel
theorem dL_law_552 : decode cL_law 552 = .ok (.iaload, 1) := by decide +kernel
theorem dL_law_553 : decode cL_law 553 = .ok (.invokevirtual 77, 3) := by decide +kernel
theorem dL_law_556 : decode cL_law 556 = .ok (.aload_n 2, 1) := by decide +kernel
theorem dL_law_557 : decode cL_law 557 = .ok (.aload_n 0, 1) := by decide +kernel
theorem dL_law_558 : decode cL_law 558 = .ok (.iload_n 3, 1) := by decide +kernel
theorem dL_law_559 : decode cL_law 559 = .ok (.iconst 1, 1) := by decide +kernel
theorem dL_law_560 : decode cL_law 560 = .ok (.iadd, 1) := by decide +kernel
theorem dL_law_561 : decode cL_law 561 = .ok (.iaload, 1) := by decide +kernel
theorem dL_law_562 : decode cL_law 562 = .ok (.aload_n 0, 1) := by decide +kernel
theorem dL_law_563 : decode cL_law 563 = .ok (.iload_n 3, 1) := by decide +kernel
theorem dL_law_564 : decode cL_law 564 = .ok (.iconst 2, 1) := by decide +kernel
theorem dL_law_565 : decode cL_law 565 = .ok (.iadd, 1) := by decide +kernel
theorem dL_law_566 : decode cL_law 566 = .ok (.iaload, 1) := by decide +kernel
theorem dL_law_567 : decode cL_law 567 = .ok (.aload_n 0, 1) := by decide +kernel
theorem dL_law_568 : decode cL_law 568 = .ok (.iload_n 3, 1) := by decide +kernel
theorem dL_law_569 : decode cL_law 569 = .ok (.iconst 3, 1) := by decide +kernel
theorem dL_law_570 : decode cL_law 570 = .ok (.iadd, 1) := by decide +kernel
theorem dL_law_571 : decode cL_law 571 = .ok (.iaload, 1) := by decide +kernel
theorem dL_law_572 : decode cL_law 572 = .ok (.invokevirtual 80, 3) := by decide +kernel
theorem dL_law_575 : decode cL_law 575 = .ok (.if_icmp .eq 160, 3) := by decide +kernel
theorem dL_law_578 : decode cL_law 578 = .ok (.iconst 0, 1) := by decide +kernel
theorem dL_law_579 : decode cL_law 579 = .ok (.ireturn, 1) := by decide +kernel
theorem dL_law_580 : decode cL_law 580 = .ok (.aload_n 1, 1) := by decide +kernel
theorem dL_law_581 : decode cL_law 581 = .ok (.aload_n 0, 1) := by decide +kernel
theorem dL_law_582 : decode cL_law 582 = .ok (.iload_n 3, 1) := by decide +kernel
theorem dL_law_583 : decode cL_law 583 = .ok (.iconst 1, 1) := by decide +kernel
theorem dL_law_584 : decode cL_law 584 = .ok (.iadd, 1) := by decide +kernel
theorem dL_law_585 : decode cL_law 585 = .ok (.iaload, 1) := by decide +kernel
theorem dL_law_586 : decode cL_law 586 = .ok (.aload_n 0, 1) := by decide +kernel
theorem dL_law_587 : decode cL_law 587 = .ok (.iload_n 3, 1) := by decide +kernel
theorem dL_law_588 : decode cL_law 588 = .ok (.iconst 2, 1) := by decide +kernel
theorem dL_law_589 : decode cL_law 589 = .ok (.iadd, 1) := by decide +kernel
theorem dL_law_590 : decode cL_law 590 = .ok (.iaload, 1) := by decide +kernel
theorem dL_law_591 : decode cL_law 591 = .ok (.invokevirtual 81, 3) := by decide +kernel
theorem dL_law_594 : decode cL_law 594 = .ok (.aload_n 2, 1) := by decide +kernel
theorem dL_law_595 : decode cL_law 595 = .ok (.aload_n 0, 1) := by decide +kernel
theorem dL_law_596 : decode cL_law 596 = .ok (.iload_n 3, 1) := by decide +kernel
theorem dL_law_597 : decode cL_law 597 = .ok (.iconst 1, 1) := by decide +kernel
theorem dL_law_598 : decode cL_law 598 = .ok (.iadd, 1) := by decide +kernel
theorem dL_law_599 : decode cL_law 599 = .ok (.iaload, 1) := by decide +kernel
theorem dL_law_600 : decode cL_law 600 = .ok (.aload_n 0, 1) := by decide +kernel
theorem dL_law_601 : decode cL_law 601 = .ok (.iload_n 3, 1) := by decide +kernel
theorem dL_law_602 : decode cL_law 602 = .ok (.iconst 2, 1) := by decide +kernel
theorem dL_law_603 : decode cL_law 603 = .ok (.iadd, 1) := by decide +kernel
theorem dL_law_604 : decode cL_law 604 = .ok (.iaload, 1) := by decide +kernel
theorem dL_law_605 : decode cL_law 605 = .ok (.invokevirtual 84, 3) := by decide +kernel
theorem dL_law_608 : decode cL_law 608 = .ok (.if_icmp .eq 127, 3) := by decide +kernel
theorem dL_law_611 : decode cL_law 611 = .ok (.iconst 0, 1) := by decide +kernel
theorem dL_law_612 : decode cL_law 612 = .ok (.ireturn, 1) := by decide +kernel
theorem dL_law_613 : decode cL_law 613 = .ok (.aload_n 1, 1) := by decide +kernel
theorem dL_law_614 : decode cL_law 614 = .ok (.aload_n 0, 1) := by decide +kernel
theorem dL_law_615 : decode cL_law 615 = .ok (.iload_n 3, 1) := by decide +kernel
theorem dL_law_616 : decode cL_law 616 = .ok (.iconst 1, 1) := by decide +kernel
theorem dL_law_617 : decode cL_law 617 = .ok (.iadd, 1) := by decide +kernel
theorem dL_law_618 : decode cL_law 618 = .ok (.iaload, 1) := by decide +kernel
theorem dL_law_619 : decode cL_law 619 = .ok (.aload_n 0, 1) := by decide +kernel
theorem dL_law_620 : decode cL_law 620 = .ok (.iload_n 3, 1) := by decide +kernel
theorem dL_law_621 : decode cL_law 621 = .ok (.iconst 2, 1) := by decide +kernel
theorem dL_law_622 : decode cL_law 622 = .ok (.iadd, 1) := by decide +kernel
theorem dL_law_623 : decode cL_law 623 = .ok (.iaload, 1) := by decide +kernel
theorem dL_law_624 : decode cL_law 624 = .ok (.aload_n 0, 1) := by decide +kernel
theorem dL_law_625 : decode cL_law 625 = .ok (.iload_n 3, 1) := by decide +kernel
theorem dL_law_626 : decode cL_law 626 = .ok (.iconst 3, 1) := by decide +kernel
theorem dL_law_627 : decode cL_law 627 = .ok (.iadd, 1) := by decide +kernel
theorem dL_law_628 : decode cL_law 628 = .ok (.iaload, 1) := by decide +kernel
theorem dL_law_629 : decode cL_law 629 = .ok (.invokevirtual 85, 3) := by decide +kernel
theorem dL_law_632 : decode cL_law 632 = .ok (.aload_n 2, 1) := by decide +kernel
theorem dL_law_633 : decode cL_law 633 = .ok (.aload_n 0, 1) := by decide +kernel
theorem dL_law_634 : decode cL_law 634 = .ok (.iload_n 3, 1) := by decide +kernel
theorem dL_law_635 : decode cL_law 635 = .ok (.iconst 1, 1) := by decide +kernel
theorem dL_law_636 : decode cL_law 636 = .ok (.iadd, 1) := by decide +kernel
theorem dL_law_637 : decode cL_law 637 = .ok (.iaload, 1) := by decide +kernel
theorem dL_law_638 : decode cL_law 638 = .ok (.aload_n 0, 1) := by decide +kernel
theorem dL_law_639 : decode cL_law 639 = .ok (.iload_n 3, 1) := by decide +kernel
theorem dL_law_640 : decode cL_law 640 = .ok (.iconst 2, 1) := by decide +kernel
theorem dL_law_641 : decode cL_law 641 = .ok (.iadd, 1) := by decide +kernel
theorem dL_law_642 : decode cL_law 642 = .ok (.iaload, 1) := by decide +kernel
theorem dL_law_643 : decode cL_law 643 = .ok (.aload_n 0, 1) := by decide +kernel
theorem dL_law_644 : decode cL_law 644 = .ok (.iload_n 3, 1) := by decide +kernel
theorem dL_law_645 : decode cL_law 645 = .ok (.iconst 3, 1) := by decide +kernel
theorem dL_law_646 : decode cL_law 646 = .ok (.iadd, 1) := by decide +kernel
theorem dL_law_647 : decode cL_law 647 = .ok (.iaload, 1) := by decide +kernel
theorem dL_law_648 : decode cL_law 648 = .ok (.invokevirtual 88, 3) := by decide +kernel
theorem dL_law_651 : decode cL_law 651 = .ok (.if_icmp .eq 84, 3) := by decide +kernel
theorem dL_law_654 : decode cL_law 654 = .ok (.iconst 0, 1) := by decide +kernel
theorem dL_law_655 : decode cL_law 655 = .ok (.ireturn, 1) := by decide +kernel
theorem dL_law_656 : decode cL_law 656 = .ok (.aload_n 1, 1) := by decide +kernel
theorem dL_law_657 : decode cL_law 657 = .ok (.aload_n 0, 1) := by decide +kernel
theorem dL_law_658 : decode cL_law 658 = .ok (.iload_n 3, 1) := by decide +kernel
theorem dL_law_659 : decode cL_law 659 = .ok (.iconst 1, 1) := by decide +kernel
theorem dL_law_660 : decode cL_law 660 = .ok (.iadd, 1) := by decide +kernel
theorem dL_law_661 : decode cL_law 661 = .ok (.iaload, 1) := by decide +kernel
theorem dL_law_662 : decode cL_law 662 = .ok (.aload_n 0, 1) := by decide +kernel
theorem dL_law_663 : decode cL_law 663 = .ok (.iload_n 3, 1) := by decide +kernel
theorem dL_law_664 : decode cL_law 664 = .ok (.iconst 2, 1) := by decide +kernel
theorem dL_law_665 : decode cL_law 665 = .ok (.iadd, 1) := by decide +kernel
theorem dL_law_666 : decode cL_law 666 = .ok (.iaload, 1) := by decide +kernel
theorem dL_law_667 : decode cL_law 667 = .ok (.invokevirtual 89, 3) := by decide +kernel
theorem dL_law_670 : decode cL_law 670 = .ok (.aload_n 2, 1) := by decide +kernel
theorem dL_law_671 : decode cL_law 671 = .ok (.aload_n 0, 1) := by decide +kernel
theorem dL_law_672 : decode cL_law 672 = .ok (.iload_n 3, 1) := by decide +kernel
theorem dL_law_673 : decode cL_law 673 = .ok (.iconst 1, 1) := by decide +kernel
theorem dL_law_674 : decode cL_law 674 = .ok (.iadd, 1) := by decide +kernel
theorem dL_law_675 : decode cL_law 675 = .ok (.iaload, 1) := by decide +kernel
theorem dL_law_676 : decode cL_law 676 = .ok (.aload_n 0, 1) := by decide +kernel
theorem dL_law_677 : decode cL_law 677 = .ok (.iload_n 3, 1) := by decide +kernel
theorem dL_law_678 : decode cL_law 678 = .ok (.iconst 2, 1) := by decide +kernel
theorem dL_law_679 : decode cL_law 679 = .ok (.iadd, 1) := by decide +kernel
theorem dL_law_680 : decode cL_law 680 = .ok (.iaload, 1) := by decide +kernel
theorem dL_law_681 : decode cL_law 681 = .ok (.invokevirtual 92, 3) := by decide +kernel
theorem dL_law_684 : decode cL_law 684 = .ok (.if_icmp .eq 51, 3) := by decide +kernel
theorem dL_law_687 : decode cL_law 687 = .ok (.iconst 0, 1) := by decide +kernel
theorem dL_law_688 : decode cL_law 688 = .ok (.ireturn, 1) := by decide +kernel
theorem dL_law_689 : decode cL_law 689 = .ok (.aload_n 1, 1) := by decide +kernel
theorem dL_law_690 : decode cL_law 690 = .ok (.aload_n 0, 1) := by decide +kernel
theorem dL_law_691 : decode cL_law 691 = .ok (.iload_n 3, 1) := by decide +kernel
theorem dL_law_692 : decode cL_law 692 = .ok (.iconst 1, 1) := by decide +kernel
theorem dL_law_693 : decode cL_law 693 = .ok (.iadd, 1) := by decide +kernel
theorem dL_law_694 : decode cL_law 694 = .ok (.iaload, 1) := by decide +kernel
theorem dL_law_695 : decode cL_law 695 = .ok (.invokevirtual 93, 3) := by decide +kernel
theorem dL_law_698 : decode cL_law 698 = .ok (.aload_n 2, 1) := by decide +kernel
theorem dL_law_699 : decode cL_law 699 = .ok (.aload_n 0, 1) := by decide +kernel
theorem dL_law_700 : decode cL_law 700 = .ok (.iload_n 3, 1) := by decide +kernel
theorem dL_law_701 : decode cL_law 701 = .ok (.iconst 1, 1) := by decide +kernel
theorem dL_law_702 : decode cL_law 702 = .ok (.iadd, 1) := by decide +kernel
theorem dL_law_703 : decode cL_law 703 = .ok (.iaload, 1) := by decide +kernel
theorem dL_law_704 : decode cL_law 704 = .ok (.invokevirtual 96, 3) := by decide +kernel
theorem dL_law_707 : decode cL_law 707 = .ok (.if_icmp .eq 28, 3) := by decide +kernel
theorem dL_law_710 : decode cL_law 710 = .ok (.iconst 0, 1) := by decide +kernel
theorem dL_law_711 : decode cL_law 711 = .ok (.ireturn, 1) := by decide +kernel
theorem dL_law_712 : decode cL_law 712 = .ok (.aload_n 1, 1) := by decide +kernel
theorem dL_law_713 : decode cL_law 713 = .ok (.aload_n 0, 1) := by decide +kernel
theorem dL_law_714 : decode cL_law 714 = .ok (.iload_n 3, 1) := by decide +kernel
theorem dL_law_715 : decode cL_law 715 = .ok (.iconst 1, 1) := by decide +kernel
theorem dL_law_716 : decode cL_law 716 = .ok (.iadd, 1) := by decide +kernel
theorem dL_law_717 : decode cL_law 717 = .ok (.iaload, 1) := by decide +kernel
theorem dL_law_718 : decode cL_law 718 = .ok (.invokevirtual 97, 3) := by decide +kernel
theorem dL_law_721 : decode cL_law 721 = .ok (.aload_n 2, 1) := by decide +kernel
theorem dL_law_722 : decode cL_law 722 = .ok (.aload_n 0, 1) := by decide +kernel
theorem dL_law_723 : decode cL_law 723 = .ok (.iload_n 3, 1) := by decide +kernel
theorem dL_law_724 : decode cL_law 724 = .ok (.iconst 1, 1) := by decide +kernel
theorem dL_law_725 : decode cL_law 725 = .ok (.iadd, 1) := by decide +kernel
theorem dL_law_726 : decode cL_law 726 = .ok (.iaload, 1) := by decide +kernel
theorem dL_law_727 : decode cL_law 727 = .ok (.invokevirtual 100, 3) := by decide +kernel
theorem dL_law_730 : decode cL_law 730 = .ok (.if_icmp .eq 5, 3) := by decide +kernel
theorem dL_law_733 : decode cL_law 733 = .ok (.iconst 0, 1) := by decide +kernel
theorem dL_law_734 : decode cL_law 734 = .ok (.ireturn, 1) := by decide +kernel
theorem dL_law_735 : decode cL_law 735 = .ok (.iinc 3 4, 3) := by decide +kernel
theorem dL_law_738 : decode cL_law 738 = .ok (.goto (-720), 3) := by decide +kernel
theorem dL_law_741 : decode cL_law 741 = .ok (.iconst 1, 1) := by decide +kernel
theorem dL_law_742 : decode cL_law 742 = .ok (.ireturn, 1) := by decide +kernel
end
section
/-- the words of the tables that go along with every call -/
def xW : List Cond := lw_tbl.filter goodWord
theorem xW_good {w : Cond} (h : w ∈ xW) : (w.onTables && w.keeps) = true ∨ ∃ ty, w = .arrayClass ty := good_of_word (List.mem_filter.mp h).2
theorem xW_tbl {w : Cond} (h : w ∈ xW) : w ∈ lw_tbl := (List.mem_filter.mp h).1
theorem xw_of {w : Cond} (i : Nat) (h : lw_tbl[i]? = some w) (hg : goodWord w = true) : w ∈ xW := List.mem_filter.mpr ⟨List.mem_of_getElem? h, hg⟩
/-- a field of an object: the constant pool's entry idx of the class own is field k of class number ci -/
def xFl (own : String) (idx ci k : Nat) (ty : FieldType) (fin : Bool) : Prop := ∃ (C : String) (T : u_T) (N : Nat) (ty0 : Nat → FieldType), vwCl[ci]? = some (C, T, N) ∧ (∀ w ∈ u_ws C T N, w ∈ xW) ∧ (∀ k, k < N → parseFieldDescriptor (T k).2.2.1 = some (ty0 k)) ∧ (∀ a, a < N → ∀ b, b < N → a ≠ b → (T a).2.1 ≠ (T b).2.1) ∧ k < N ∧ Cond.fieldLink own idx (T k).1 (T k).2.1 (T k).2.2.1 ∈ xW ∧ (T k).2.2.2 = fin ∧ parseFieldDescriptor (T k).2.2.1 = some ty ∧ (T k).1 = C
/-- a class that is made -/
def xNw (own : String) (idx ci N : Nat) (fs : List Value) : Prop := ∃ (C : String) (T : u_T) (ty0 : Nat → FieldType), vwCl[ci]? = some (C, T, N) ∧ (∀ w ∈ u_ws C T N, w ∈ xW) ∧ (∀ k, k < N → parseFieldDescriptor (T k).2.2.1 = some (ty0 k)) ∧ Cond.classLink own idx C ∈ xW ∧ Cond.instantiable C N ∈ xW ∧ Cond.initialized C ∈ xW ∧ ∀ j, j < N → defaultValue (ty0 j) = vp_V fs j
/-- a method that is called: its code, its class, its number of arguments -/
def xMy (y : MethodName) (cc : ByteArray) (nL : Nat) (ret : Option FieldType) (n : Nat) : Prop := Cond.code y cc nL ret ∈ xW ∧ Cond.initialized y.cls ∈ xW ∧ y.cls ≠ "java/lang/invoke/MethodHandle" ∧ y.cls ≠ "java/lang/invoke/VarHandle" ∧ (parseMethodDescriptor y.desc).map (fun d => d.parameters.length) = some n
def xMv (y : MethodName) (cc : ByteArray) (nL : Nat) (ret : Option FieldType) (n : Nat) : Prop := xMy y cc nL ret n ∧ Cond.instanceMethod y ∈ xW ∧ Cond.selects y.cls y y ∈ xW
def xMs (y : MethodName) (cc : ByteArray) (nL : Nat) (ret : Option FieldType) (n : Nat) : Prop := xMy y cc nL ret n ∧ Cond.static y ∈ xW
def xMi (y : MethodName) (cc : ByteArray) (nL : Nat) (ret : Option FieldType) (n : Nat) : Prop := xMy y cc nL ret n ∧ Cond.instanceMethod y ∈ xW ∧ y.name = "<init>"
theorem inWX0 : ∀ w ∈ u_ws RX0 TX0 4, w ∈ xW := by
  intro w hw
  have h1 : w ∈ [u_lay RX0 TX0 0, u_lay RX0 TX0 1, u_lay RX0 TX0 2, u_lay RX0 TX0 3] := hw
  simp only [List.mem_cons, List.not_mem_nil, or_false] at h1
  rcases h1 with rfl | rfl | rfl | rfl
  · exact xw_of 199 (by decide +kernel) rfl
  · exact xw_of 201 (by decide +kernel) rfl
  · exact xw_of 203 (by decide +kernel) rfl
  · exact xw_of 205 (by decide +kernel) rfl
theorem inWX1 : ∀ w ∈ u_ws RX1 TX1 5, w ∈ xW := by
  intro w hw
  have h1 : w ∈ [u_lay RX1 TX1 0, u_lay RX1 TX1 1, u_lay RX1 TX1 2, u_lay RX1 TX1 3, u_lay RX1 TX1 4] := hw
  simp only [List.mem_cons, List.not_mem_nil, or_false] at h1
  rcases h1 with rfl | rfl | rfl | rfl | rfl
  · exact xw_of 111 (by decide +kernel) rfl
  · exact xw_of 113 (by decide +kernel) rfl
  · exact xw_of 115 (by decide +kernel) rfl
  · exact xw_of 117 (by decide +kernel) rfl
  · exact xw_of 119 (by decide +kernel) rfl
theorem inWX2 : ∀ w ∈ u_ws RX2 TX2 3, w ∈ xW := by
  intro w hw
  have h1 : w ∈ [u_lay RX2 TX2 0, u_lay RX2 TX2 1, u_lay RX2 TX2 2] := hw
  simp only [List.mem_cons, List.not_mem_nil, or_false] at h1
  rcases h1 with rfl | rfl | rfl
  · exact xw_of 73 (by decide +kernel) rfl
  · exact xw_of 75 (by decide +kernel) rfl
  · exact xw_of 77 (by decide +kernel) rfl
theorem inWX3 : ∀ w ∈ u_ws RX3 TX3 15, w ∈ xW := by
  intro w hw
  have h1 : w ∈ [u_lay RX3 TX3 0, u_lay RX3 TX3 1, u_lay RX3 TX3 2, u_lay RX3 TX3 3, u_lay RX3 TX3 4, u_lay RX3 TX3 5, u_lay RX3 TX3 6, u_lay RX3 TX3 7, u_lay RX3 TX3 8, u_lay RX3 TX3 9, u_lay RX3 TX3 10, u_lay RX3 TX3 11, u_lay RX3 TX3 12, u_lay RX3 TX3 13, u_lay RX3 TX3 14] := hw
  simp only [List.mem_cons, List.not_mem_nil, or_false] at h1
  rcases h1 with rfl | rfl | rfl | rfl | rfl | rfl | rfl | rfl | rfl | rfl | rfl | rfl | rfl | rfl | rfl
  · exact xw_of 159 (by decide +kernel) rfl
  · exact xw_of 161 (by decide +kernel) rfl
  · exact xw_of 163 (by decide +kernel) rfl
  · exact xw_of 165 (by decide +kernel) rfl
  · exact xw_of 167 (by decide +kernel) rfl
  · exact xw_of 169 (by decide +kernel) rfl
  · exact xw_of 171 (by decide +kernel) rfl
  · exact xw_of 173 (by decide +kernel) rfl
  · exact xw_of 175 (by decide +kernel) rfl
  · exact xw_of 177 (by decide +kernel) rfl
  · exact xw_of 179 (by decide +kernel) rfl
  · exact xw_of 181 (by decide +kernel) rfl
  · exact xw_of 183 (by decide +kernel) rfl
  · exact xw_of 185 (by decide +kernel) rfl
  · exact xw_of 187 (by decide +kernel) rfl
theorem inWX4 : ∀ w ∈ u_ws RX4 TX4 8, w ∈ xW := by
  intro w hw
  have h1 : w ∈ [u_lay RX4 TX4 0, u_lay RX4 TX4 1, u_lay RX4 TX4 2, u_lay RX4 TX4 3, u_lay RX4 TX4 4, u_lay RX4 TX4 5, u_lay RX4 TX4 6, u_lay RX4 TX4 7] := hw
  simp only [List.mem_cons, List.not_mem_nil, or_false] at h1
  rcases h1 with rfl | rfl | rfl | rfl | rfl | rfl | rfl | rfl
  · exact xw_of 372 (by decide +kernel) rfl
  · exact xw_of 374 (by decide +kernel) rfl
  · exact xw_of 376 (by decide +kernel) rfl
  · exact xw_of 378 (by decide +kernel) rfl
  · exact xw_of 380 (by decide +kernel) rfl
  · exact xw_of 382 (by decide +kernel) rfl
  · exact xw_of 384 (by decide +kernel) rfl
  · exact xw_of 386 (by decide +kernel) rfl
theorem inWX5 : ∀ w ∈ u_ws RX5 TX5 10, w ∈ xW := by
  intro w hw
  have h1 : w ∈ [u_lay RX5 TX5 0, u_lay RX5 TX5 1, u_lay RX5 TX5 2, u_lay RX5 TX5 3, u_lay RX5 TX5 4, u_lay RX5 TX5 5, u_lay RX5 TX5 6, u_lay RX5 TX5 7, u_lay RX5 TX5 8, u_lay RX5 TX5 9] := hw
  simp only [List.mem_cons, List.not_mem_nil, or_false] at h1
  rcases h1 with rfl | rfl | rfl | rfl | rfl | rfl | rfl | rfl | rfl | rfl
  · exact xw_of 637 (by decide +kernel) rfl
  · exact xw_of 639 (by decide +kernel) rfl
  · exact xw_of 641 (by decide +kernel) rfl
  · exact xw_of 643 (by decide +kernel) rfl
  · exact xw_of 645 (by decide +kernel) rfl
  · exact xw_of 647 (by decide +kernel) rfl
  · exact xw_of 649 (by decide +kernel) rfl
  · exact xw_of 651 (by decide +kernel) rfl
  · exact xw_of 653 (by decide +kernel) rfl
  · exact xw_of 655 (by decide +kernel) rfl
theorem xf_X2_9 : xFl RX2 9 2 0 (.array .char) true := ⟨RX2, TX2, 3, tyX2, rfl, inWX2, tyX2_ok, nmX2, by decide, xw_of 67 (by decide +kernel) rfl, rfl, by decide +kernel, rfl⟩
theorem xf_X4_68 : xFl RX4 68 2 1 .int false := ⟨RX2, TX2, 3, tyX2, rfl, inWX2, tyX2_ok, nmX2, by decide, xw_of 68 (by decide +kernel) rfl, rfl, by decide +kernel, rfl⟩
theorem xf_X2_15 : xFl RX2 15 2 1 .int false := ⟨RX2, TX2, 3, tyX2, rfl, inWX2, tyX2_ok, nmX2, by decide, xw_of 69 (by decide +kernel) rfl, rfl, by decide +kernel, rfl⟩
theorem xf_X0_65 : xFl RX0 65 2 1 .int false := ⟨RX2, TX2, 3, tyX2, rfl, inWX2, tyX2_ok, nmX2, by decide, xw_of 70 (by decide +kernel) rfl, rfl, by decide +kernel, rfl⟩
theorem xf_X2_19 : xFl RX2 19 2 2 .int false := ⟨RX2, TX2, 3, tyX2, rfl, inWX2, tyX2_ok, nmX2, by decide, xw_of 71 (by decide +kernel) rfl, rfl, by decide +kernel, rfl⟩
theorem xf_X0_60 : xFl RX0 60 2 2 .int false := ⟨RX2, TX2, 3, tyX2, rfl, inWX2, tyX2_ok, nmX2, by decide, xw_of 72 (by decide +kernel) rfl, rfl, by decide +kernel, rfl⟩
theorem xf_X1_9 : xFl RX1 9 1 0 .int false := ⟨RX1, TX1, 5, tyX1, rfl, inWX1, tyX1_ok, nmX1, by decide, xw_of 93 (by decide +kernel) rfl, rfl, by decide +kernel, rfl⟩
theorem xf_X3_28 : xFl RX3 28 1 0 .int false := ⟨RX1, TX1, 5, tyX1, rfl, inWX1, tyX1_ok, nmX1, by decide, xw_of 94 (by decide +kernel) rfl, rfl, by decide +kernel, rfl⟩
theorem xf_X0_121 : xFl RX0 121 1 0 .int false := ⟨RX1, TX1, 5, tyX1, rfl, inWX1, tyX1_ok, nmX1, by decide, xw_of 95 (by decide +kernel) rfl, rfl, by decide +kernel, rfl⟩
theorem xf_X4_176 : xFl RX4 176 1 0 .int false := ⟨RX1, TX1, 5, tyX1, rfl, inWX1, tyX1_ok, nmX1, by decide, xw_of 96 (by decide +kernel) rfl, rfl, by decide +kernel, rfl⟩
theorem xf_X1_15 : xFl RX1 15 1 1 .int false := ⟨RX1, TX1, 5, tyX1, rfl, inWX1, tyX1_ok, nmX1, by decide, xw_of 97 (by decide +kernel) rfl, rfl, by decide +kernel, rfl⟩
theorem xf_X3_36 : xFl RX3 36 1 1 .int false := ⟨RX1, TX1, 5, tyX1, rfl, inWX1, tyX1_ok, nmX1, by decide, xw_of 98 (by decide +kernel) rfl, rfl, by decide +kernel, rfl⟩
theorem xf_X0_126 : xFl RX0 126 1 1 .int false := ⟨RX1, TX1, 5, tyX1, rfl, inWX1, tyX1_ok, nmX1, by decide, xw_of 99 (by decide +kernel) rfl, rfl, by decide +kernel, rfl⟩
theorem xf_X4_179 : xFl RX4 179 1 1 .int false := ⟨RX1, TX1, 5, tyX1, rfl, inWX1, tyX1_ok, nmX1, by decide, xw_of 100 (by decide +kernel) rfl, rfl, by decide +kernel, rfl⟩
theorem xf_X1_18 : xFl RX1 18 1 2 .int false := ⟨RX1, TX1, 5, tyX1, rfl, inWX1, tyX1_ok, nmX1, by decide, xw_of 101 (by decide +kernel) rfl, rfl, by decide +kernel, rfl⟩
theorem xf_X0_131 : xFl RX0 131 1 2 .int false := ⟨RX1, TX1, 5, tyX1, rfl, inWX1, tyX1_ok, nmX1, by decide, xw_of 102 (by decide +kernel) rfl, rfl, by decide +kernel, rfl⟩
theorem xf_X3_145 : xFl RX3 145 1 2 .int false := ⟨RX1, TX1, 5, tyX1, rfl, inWX1, tyX1_ok, nmX1, by decide, xw_of 103 (by decide +kernel) rfl, rfl, by decide +kernel, rfl⟩
theorem xf_X4_182 : xFl RX4 182 1 2 .int false := ⟨RX1, TX1, 5, tyX1, rfl, inWX1, tyX1_ok, nmX1, by decide, xw_of 104 (by decide +kernel) rfl, rfl, by decide +kernel, rfl⟩
theorem xf_X1_21 : xFl RX1 21 1 3 .int false := ⟨RX1, TX1, 5, tyX1, rfl, inWX1, tyX1_ok, nmX1, by decide, xw_of 105 (by decide +kernel) rfl, rfl, by decide +kernel, rfl⟩
theorem xf_X4_127 : xFl RX4 127 1 3 .int false := ⟨RX1, TX1, 5, tyX1, rfl, inWX1, tyX1_ok, nmX1, by decide, xw_of 106 (by decide +kernel) rfl, rfl, by decide +kernel, rfl⟩
theorem xf_X0_139 : xFl RX0 139 1 3 .int false := ⟨RX1, TX1, 5, tyX1, rfl, inWX1, tyX1_ok, nmX1, by decide, xw_of 107 (by decide +kernel) rfl, rfl, by decide +kernel, rfl⟩
theorem xf_X1_24 : xFl RX1 24 1 4 .int false := ⟨RX1, TX1, 5, tyX1, rfl, inWX1, tyX1_ok, nmX1, by decide, xw_of 108 (by decide +kernel) rfl, rfl, by decide +kernel, rfl⟩
theorem xf_X3_91 : xFl RX3 91 1 4 .int false := ⟨RX1, TX1, 5, tyX1, rfl, inWX1, tyX1_ok, nmX1, by decide, xw_of 109 (by decide +kernel) rfl, rfl, by decide +kernel, rfl⟩
theorem xf_X0_144 : xFl RX0 144 1 4 .int false := ⟨RX1, TX1, 5, tyX1, rfl, inWX1, tyX1_ok, nmX1, by decide, xw_of 110 (by decide +kernel) rfl, rfl, by decide +kernel, rfl⟩
theorem xf_X3_18 : xFl RX3 18 3 0 .int false := ⟨RX3, TX3, 15, tyX3, rfl, inWX3, tyX3_ok, nmX3, by decide, xw_of 129 (by decide +kernel) rfl, rfl, by decide +kernel, rfl⟩
theorem xf_X3_22 : xFl RX3 22 3 1 .int false := ⟨RX3, TX3, 15, tyX3, rfl, inWX3, tyX3_ok, nmX3, by decide, xw_of 130 (by decide +kernel) rfl, rfl, by decide +kernel, rfl⟩
theorem xf_X4_194 : xFl RX4 194 3 1 .int false := ⟨RX3, TX3, 15, tyX3, rfl, inWX3, tyX3_ok, nmX3, by decide, xw_of 131 (by decide +kernel) rfl, rfl, by decide +kernel, rfl⟩
theorem xf_X3_9 : xFl RX3 9 3 2 (.array .int) true := ⟨RX3, TX3, 15, tyX3, rfl, inWX3, tyX3_ok, nmX3, by decide, xw_of 132 (by decide +kernel) rfl, rfl, by decide +kernel, rfl⟩
theorem xf_X4_117 : xFl RX4 117 3 2 (.array .int) true := ⟨RX3, TX3, 15, tyX3, rfl, inWX3, tyX3_ok, nmX3, by decide, xw_of 133 (by decide +kernel) rfl, rfl, by decide +kernel, rfl⟩
theorem xf_X3_15 : xFl RX3 15 3 3 (.array .int) true := ⟨RX3, TX3, 15, tyX3, rfl, inWX3, tyX3_ok, nmX3, by decide, xw_of 134 (by decide +kernel) rfl, rfl, by decide +kernel, rfl⟩
theorem xf_X4_121 : xFl RX4 121 3 3 (.array .int) true := ⟨RX3, TX3, 15, tyX3, rfl, inWX3, tyX3_ok, nmX3, by decide, xw_of 135 (by decide +kernel) rfl, rfl, by decide +kernel, rfl⟩
theorem xf_X3_25 : xFl RX3 25 3 4 .int false := ⟨RX3, TX3, 15, tyX3, rfl, inWX3, tyX3_ok, nmX3, by decide, xw_of 136 (by decide +kernel) rfl, rfl, by decide +kernel, rfl⟩
theorem xf_X4_124 : xFl RX4 124 3 4 .int false := ⟨RX3, TX3, 15, tyX3, rfl, inWX3, tyX3_ok, nmX3, by decide, xw_of 137 (by decide +kernel) rfl, rfl, by decide +kernel, rfl⟩
theorem xf_X0_116 : xFl RX0 116 3 4 .int false := ⟨RX3, TX3, 15, tyX3, rfl, inWX3, tyX3_ok, nmX3, by decide, xw_of 138 (by decide +kernel) rfl, rfl, by decide +kernel, rfl⟩
theorem xf_X0_39 : xFl RX0 39 3 5 .int false := ⟨RX3, TX3, 15, tyX3, rfl, inWX3, tyX3_ok, nmX3, by decide, xw_of 139 (by decide +kernel) rfl, rfl, by decide +kernel, rfl⟩
theorem xf_X3_33 : xFl RX3 33 3 5 .int false := ⟨RX3, TX3, 15, tyX3, rfl, inWX3, tyX3_ok, nmX3, by decide, xw_of 140 (by decide +kernel) rfl, rfl, by decide +kernel, rfl⟩
theorem xf_X4_157 : xFl RX4 157 3 5 .int false := ⟨RX3, TX3, 15, tyX3, rfl, inWX3, tyX3_ok, nmX3, by decide, xw_of 141 (by decide +kernel) rfl, rfl, by decide +kernel, rfl⟩
theorem xf_X3_39 : xFl RX3 39 3 6 .int false := ⟨RX3, TX3, 15, tyX3, rfl, inWX3, tyX3_ok, nmX3, by decide, xw_of 142 (by decide +kernel) rfl, rfl, by decide +kernel, rfl⟩
theorem xf_X4_160 : xFl RX4 160 3 6 .int false := ⟨RX3, TX3, 15, tyX3, rfl, inWX3, tyX3_ok, nmX3, by decide, xw_of 143 (by decide +kernel) rfl, rfl, by decide +kernel, rfl⟩
theorem xf_X0_48 : xFl RX0 48 3 7 .int false := ⟨RX3, TX3, 15, tyX3, rfl, inWX3, tyX3_ok, nmX3, by decide, xw_of 144 (by decide +kernel) rfl, rfl, by decide +kernel, rfl⟩
theorem xf_X3_46 : xFl RX3 46 3 7 .int false := ⟨RX3, TX3, 15, tyX3, rfl, inWX3, tyX3_ok, nmX3, by decide, xw_of 145 (by decide +kernel) rfl, rfl, by decide +kernel, rfl⟩
theorem xf_X4_163 : xFl RX4 163 3 7 .int false := ⟨RX3, TX3, 15, tyX3, rfl, inWX3, tyX3_ok, nmX3, by decide, xw_of 146 (by decide +kernel) rfl, rfl, by decide +kernel, rfl⟩
theorem xf_X3_49 : xFl RX3 49 3 8 .int false := ⟨RX3, TX3, 15, tyX3, rfl, inWX3, tyX3_ok, nmX3, by decide, xw_of 147 (by decide +kernel) rfl, rfl, by decide +kernel, rfl⟩
theorem xf_X3_52 : xFl RX3 52 3 9 .int false := ⟨RX3, TX3, 15, tyX3, rfl, inWX3, tyX3_ok, nmX3, by decide, xw_of 148 (by decide +kernel) rfl, rfl, by decide +kernel, rfl⟩
theorem xf_X3_55 : xFl RX3 55 3 10 .int false := ⟨RX3, TX3, 15, tyX3, rfl, inWX3, tyX3_ok, nmX3, by decide, xw_of 149 (by decide +kernel) rfl, rfl, by decide +kernel, rfl⟩
theorem xf_X3_58 : xFl RX3 58 3 11 .int false := ⟨RX3, TX3, 15, tyX3, rfl, inWX3, tyX3_ok, nmX3, by decide, xw_of 150 (by decide +kernel) rfl, rfl, by decide +kernel, rfl⟩
theorem xf_X4_166 : xFl RX4 166 3 11 .int false := ⟨RX3, TX3, 15, tyX3, rfl, inWX3, tyX3_ok, nmX3, by decide, xw_of 151 (by decide +kernel) rfl, rfl, by decide +kernel, rfl⟩
theorem xf_X3_61 : xFl RX3 61 3 12 .int false := ⟨RX3, TX3, 15, tyX3, rfl, inWX3, tyX3_ok, nmX3, by decide, xw_of 152 (by decide +kernel) rfl, rfl, by decide +kernel, rfl⟩
theorem xf_X0_51 : xFl RX0 51 3 12 .int false := ⟨RX3, TX3, 15, tyX3, rfl, inWX3, tyX3_ok, nmX3, by decide, xw_of 153 (by decide +kernel) rfl, rfl, by decide +kernel, rfl⟩
theorem xf_X4_105 : xFl RX4 105 3 12 .int false := ⟨RX3, TX3, 15, tyX3, rfl, inWX3, tyX3_ok, nmX3, by decide, xw_of 154 (by decide +kernel) rfl, rfl, by decide +kernel, rfl⟩
theorem xf_X3_64 : xFl RX3 64 3 13 .int false := ⟨RX3, TX3, 15, tyX3, rfl, inWX3, tyX3_ok, nmX3, by decide, xw_of 155 (by decide +kernel) rfl, rfl, by decide +kernel, rfl⟩
theorem xf_X0_54 : xFl RX0 54 3 13 .int false := ⟨RX3, TX3, 15, tyX3, rfl, inWX3, tyX3_ok, nmX3, by decide, xw_of 156 (by decide +kernel) rfl, rfl, by decide +kernel, rfl⟩
theorem xf_X4_169 : xFl RX4 169 3 13 .int false := ⟨RX3, TX3, 15, tyX3, rfl, inWX3, tyX3_ok, nmX3, by decide, xw_of 157 (by decide +kernel) rfl, rfl, by decide +kernel, rfl⟩
theorem xf_X3_67 : xFl RX3 67 3 14 .int false := ⟨RX3, TX3, 15, tyX3, rfl, inWX3, tyX3_ok, nmX3, by decide, xw_of 158 (by decide +kernel) rfl, rfl, by decide +kernel, rfl⟩
theorem xf_X0_12 : xFl RX0 12 0 0 (.object "GreatProbes$Rules") true := ⟨RX0, TX0, 4, tyX0, rfl, inWX0, tyX0_ok, nmX0, by decide, xw_of 191 (by decide +kernel) rfl, rfl, by decide +kernel, rfl⟩
theorem xf_X4_94 : xFl RX4 94 0 0 (.object "GreatProbes$Rules") true := ⟨RX0, TX0, 4, tyX0, rfl, inWX0, tyX0_ok, nmX0, by decide, xw_of 192 (by decide +kernel) rfl, rfl, by decide +kernel, rfl⟩
theorem xf_X0_20 : xFl RX0 20 0 1 (.array (.object "GreatProbes$Way")) true := ⟨RX0, TX0, 4, tyX0, rfl, inWX0, tyX0_ok, nmX0, by decide, xw_of 193 (by decide +kernel) rfl, rfl, by decide +kernel, rfl⟩
theorem xf_X4_90 : xFl RX4 90 0 1 (.array (.object "GreatProbes$Way")) true := ⟨RX0, TX0, 4, tyX0, rfl, inWX0, tyX0_ok, nmX0, by decide, xw_of 194 (by decide +kernel) rfl, rfl, by decide +kernel, rfl⟩
theorem xf_X0_29 : xFl RX0 29 0 2 .int false := ⟨RX0, TX0, 4, tyX0, rfl, inWX0, tyX0_ok, nmX0, by decide, xw_of 195 (by decide +kernel) rfl, rfl, by decide +kernel, rfl⟩
theorem xf_X4_71 : xFl RX4 71 0 2 .int false := ⟨RX0, TX0, 4, tyX0, rfl, inWX0, tyX0_ok, nmX0, by decide, xw_of 196 (by decide +kernel) rfl, rfl, by decide +kernel, rfl⟩
theorem xf_X0_36 : xFl RX0 36 0 3 .int false := ⟨RX0, TX0, 4, tyX0, rfl, inWX0, tyX0_ok, nmX0, by decide, xw_of 197 (by decide +kernel) rfl, rfl, by decide +kernel, rfl⟩
theorem xf_X4_81 : xFl RX4 81 0 3 .int false := ⟨RX0, TX0, 4, tyX0, rfl, inWX0, tyX0_ok, nmX0, by decide, xw_of 198 (by decide +kernel) rfl, rfl, by decide +kernel, rfl⟩
theorem xg_J0_38 : Cond.fieldLink RJ0 38 "java/lang/String" "COMPACT_STRINGS" "Z" ∈ xW := xw_of 222 (by decide +kernel) rfl
theorem xg_J0_1053 : Cond.fieldLink RJ0 1053 "jdk/internal/util/Preconditions" "SIOOBE_FORMATTER" "Ljava/util/function/BiFunction;" ∈ xW := xw_of 238 (by decide +kernel) rfl
theorem xg_J2_44 : Cond.fieldLink RJ2 44 "java/lang/StringUTF16" "$assertionsDisabled" "Z" ∈ xW := xw_of 256 (by decide +kernel) rfl
theorem xg_J2_59 : Cond.fieldLink RJ2 59 "java/lang/StringUTF16" "HI_BYTE_SHIFT" "I" ∈ xW := xw_of 258 (by decide +kernel) rfl
theorem xg_J2_63 : Cond.fieldLink RJ2 63 "java/lang/StringUTF16" "LO_BYTE_SHIFT" "I" ∈ xW := xw_of 260 (by decide +kernel) rfl
theorem xf_X4_10 : xFl RX4 10 4 0 (.object "GreatProbes$Text") true := ⟨RX4, TX4, 8, tyX4, rfl, inWX4, tyX4_ok, nmX4, by decide, xw_of 364 (by decide +kernel) rfl, rfl, by decide +kernel, rfl⟩
theorem xf_X4_19 : xFl RX4 19 4 1 (.object "GreatProbes$Net") true := ⟨RX4, TX4, 8, tyX4, rfl, inWX4, tyX4_ok, nmX4, by decide, xw_of 365 (by decide +kernel) rfl, rfl, by decide +kernel, rfl⟩
theorem xf_X4_23 : xFl RX4 23 4 2 (.object "GreatProbes$Net") true := ⟨RX4, TX4, 8, tyX4, rfl, inWX4, tyX4_ok, nmX4, by decide, xw_of 366 (by decide +kernel) rfl, rfl, by decide +kernel, rfl⟩
theorem xf_X4_26 : xFl RX4 26 4 3 (.array (.object "GreatProbes$Net")) true := ⟨RX4, TX4, 8, tyX4, rfl, inWX4, tyX4_ok, nmX4, by decide, xw_of 367 (by decide +kernel) rfl, rfl, by decide +kernel, rfl⟩
theorem xf_X4_130 : xFl RX4 130 4 4 .int false := ⟨RX4, TX4, 8, tyX4, rfl, inWX4, tyX4_ok, nmX4, by decide, xw_of 368 (by decide +kernel) rfl, rfl, by decide +kernel, rfl⟩
theorem xf_X4_74 : xFl RX4 74 4 5 .int false := ⟨RX4, TX4, 8, tyX4, rfl, inWX4, tyX4_ok, nmX4, by decide, xw_of 369 (by decide +kernel) rfl, rfl, by decide +kernel, rfl⟩
theorem xf_X4_33 : xFl RX4 33 4 6 (.object "GreatProbes$Way") true := ⟨RX4, TX4, 8, tyX4, rfl, inWX4, tyX4_ok, nmX4, by decide, xw_of 370 (by decide +kernel) rfl, rfl, by decide +kernel, rfl⟩
theorem xf_X4_40 : xFl RX4 40 4 7 (.object "GreatProbes$Rules") true := ⟨RX4, TX4, 8, tyX4, rfl, inWX4, tyX4_ok, nmX4, by decide, xw_of 371 (by decide +kernel) rfl, rfl, by decide +kernel, rfl⟩
theorem xf_X5_7 : xFl RX5 7 5 0 (.array .int) true := ⟨RX5, TX5, 10, tyX5, rfl, inWX5, tyX5_ok, nmX5, by decide, xw_of 627 (by decide +kernel) rfl, rfl, by decide +kernel, rfl⟩
theorem xf_X5_13 : xFl RX5 13 5 1 (.array .int) true := ⟨RX5, TX5, 10, tyX5, rfl, inWX5, tyX5_ok, nmX5, by decide, xw_of 628 (by decide +kernel) rfl, rfl, by decide +kernel, rfl⟩
theorem xf_X5_16 : xFl RX5 16 5 2 (.array .int) true := ⟨RX5, TX5, 10, tyX5, rfl, inWX5, tyX5_ok, nmX5, by decide, xw_of 629 (by decide +kernel) rfl, rfl, by decide +kernel, rfl⟩
theorem xf_X5_19 : xFl RX5 19 5 3 (.array .int) true := ⟨RX5, TX5, 10, tyX5, rfl, inWX5, tyX5_ok, nmX5, by decide, xw_of 630 (by decide +kernel) rfl, rfl, by decide +kernel, rfl⟩
theorem xf_X5_47 : xFl RX5 47 5 4 .int false := ⟨RX5, TX5, 10, tyX5, rfl, inWX5, tyX5_ok, nmX5, by decide, xw_of 631 (by decide +kernel) rfl, rfl, by decide +kernel, rfl⟩
theorem xf_X5_22 : xFl RX5 22 5 5 (.array .int) true := ⟨RX5, TX5, 10, tyX5, rfl, inWX5, tyX5_ok, nmX5, by decide, xw_of 632 (by decide +kernel) rfl, rfl, by decide +kernel, rfl⟩
theorem xf_X5_54 : xFl RX5 54 5 6 .int false := ⟨RX5, TX5, 10, tyX5, rfl, inWX5, tyX5_ok, nmX5, by decide, xw_of 633 (by decide +kernel) rfl, rfl, by decide +kernel, rfl⟩
theorem xf_X5_51 : xFl RX5 51 5 7 .int false := ⟨RX5, TX5, 10, tyX5, rfl, inWX5, tyX5_ok, nmX5, by decide, xw_of 634 (by decide +kernel) rfl, rfl, by decide +kernel, rfl⟩
theorem xf_X5_151 : xFl RX5 151 5 8 .int false := ⟨RX5, TX5, 10, tyX5, rfl, inWX5, tyX5_ok, nmX5, by decide, xw_of 635 (by decide +kernel) rfl, rfl, by decide +kernel, rfl⟩
theorem xf_X5_158 : xFl RX5 158 5 9 .boolean false := ⟨RX5, TX5, 10, tyX5, rfl, inWX5, tyX5_ok, nmX5, by decide, xw_of 636 (by decide +kernel) rfl, rfl, by decide +kernel, rfl⟩
theorem xg_J0_9 : Cond.fieldLink RJ0 9 "java/lang/String" "value" "[B" ∈ xW := xw_of 876 (by decide +kernel) rfl
theorem xg_J0_15 : Cond.fieldLink RJ0 15 "java/lang/String" "coder" "B" ∈ xW := xw_of 877 (by decide +kernel) rfl
set_option maxRecDepth 20000 in
theorem xi_X0_init : xMi yX0_init cX0_init 2 none 0 := ⟨⟨xw_of 85 rfl rfl, xw_of 43 (by decide +kernel) rfl, by decide, by decide, by decide +kernel⟩, xw_of 84 (by decide +kernel) rfl, rfl⟩
set_option maxRecDepth 20000 in
theorem xv_X0_copy : xMv yX0_copy cX0_copy 3 none 1 := ⟨⟨xw_of 352 rfl rfl, xw_of 43 (by decide +kernel) rfl, by decide, by decide, by decide +kernel⟩, xw_of 350 (by decide +kernel) rfl, xw_of 351 (by decide +kernel) rfl⟩
set_option maxRecDepth 20000 in
theorem xv_X0_leastLow : xMv yX0_leastLow cX0_leastLow 3 (some .int) 0 := ⟨⟨xw_of 589 rfl rfl, xw_of 43 (by decide +kernel) rfl, by decide, by decide, by decide +kernel⟩, xw_of 587 (by decide +kernel) rfl, xw_of 588 (by decide +kernel) rfl⟩
set_option maxRecDepth 20000 in
theorem xv_X0_allDone : xMv yX0_allDone cX0_allDone 3 (some .int) 0 := ⟨⟨xw_of 594 rfl rfl, xw_of 43 (by decide +kernel) rfl, by decide, by decide, by decide +kernel⟩, xw_of 592 (by decide +kernel) rfl, xw_of 593 (by decide +kernel) rfl⟩
set_option maxRecDepth 20000 in
theorem xv_X0_allSent : xMv yX0_allSent cX0_allSent 3 (some .int) 0 := ⟨⟨xw_of 598 rfl rfl, xw_of 43 (by decide +kernel) rfl, by decide, by decide, by decide +kernel⟩, xw_of 596 (by decide +kernel) rfl, xw_of 597 (by decide +kernel) rfl⟩
set_option maxRecDepth 20000 in
theorem xv_X0_allLost : xMv yX0_allLost cX0_allLost 3 (some .int) 0 := ⟨⟨xw_of 418 rfl rfl, xw_of 43 (by decide +kernel) rfl, by decide, by decide, by decide +kernel⟩, xw_of 416 (by decide +kernel) rfl, xw_of 417 (by decide +kernel) rfl⟩
set_option maxRecDepth 20000 in
theorem xv_X0_read : xMv yX0_read cX0_read 4 (some .int) 1 := ⟨⟨xw_of 269 rfl rfl, xw_of 43 (by decide +kernel) rfl, by decide, by decide, by decide +kernel⟩, xw_of 267 (by decide +kernel) rfl, xw_of 268 (by decide +kernel) rfl⟩
set_option maxRecDepth 20000 in
theorem xv_X0_readItem : xMv yX0_readItem cX0_readItem 2 (some .boolean) 1 := ⟨⟨xw_of 277 rfl rfl, xw_of 43 (by decide +kernel) rfl, by decide, by decide, by decide +kernel⟩, xw_of 276 (by decide +kernel) rfl, xw_of 0 (by decide +kernel) rfl⟩
set_option maxRecDepth 20000 in
theorem xv_X0_addWay : xMv yX0_addWay cX0_addWay 1 (some .boolean) 0 := ⟨⟨xw_of 288 rfl rfl, xw_of 43 (by decide +kernel) rfl, by decide, by decide, by decide +kernel⟩, xw_of 287 (by decide +kernel) rfl, xw_of 1 (by decide +kernel) rfl⟩
set_option maxRecDepth 20000 in
theorem xv_X0_readHop : xMv yX0_readHop cX0_readHop 4 (some .boolean) 1 := ⟨⟨xw_of 297 rfl rfl, xw_of 43 (by decide +kernel) rfl, by decide, by decide, by decide +kernel⟩, xw_of 296 (by decide +kernel) rfl, xw_of 2 (by decide +kernel) rfl⟩
set_option maxRecDepth 20000 in
theorem xv_X0_readLoss : xMv yX0_readLoss cX0_readLoss 3 (some .boolean) 1 := ⟨⟨xw_of 323 rfl rfl, xw_of 43 (by decide +kernel) rfl, by decide, by decide, by decide +kernel⟩, xw_of 322 (by decide +kernel) rfl, xw_of 3 (by decide +kernel) rfl⟩
set_option maxRecDepth 20000 in
theorem xv_X0_readRule : xMv yX0_readRule cX0_readRule 2 (some .boolean) 1 := ⟨⟨xw_of 327 rfl rfl, xw_of 43 (by decide +kernel) rfl, by decide, by decide, by decide +kernel⟩, xw_of 326 (by decide +kernel) rfl, xw_of 4 (by decide +kernel) rfl⟩
set_option maxRecDepth 20000 in
theorem xi_X1_init : xMi yX1_init cX1_init 1 none 0 := ⟨⟨xw_of 91 rfl rfl, xw_of 44 (by decide +kernel) rfl, by decide, by decide, by decide +kernel⟩, xw_of 90 (by decide +kernel) rfl, rfl⟩
set_option maxRecDepth 20000 in
theorem xv_X1_clear : xMv yX1_clear cX1_clear 1 none 0 := ⟨⟨xw_of 273 rfl rfl, xw_of 44 (by decide +kernel) rfl, by decide, by decide, by decide +kernel⟩, xw_of 271 (by decide +kernel) rfl, xw_of 272 (by decide +kernel) rfl⟩
set_option maxRecDepth 20000 in
theorem xv_X1_copy : xMv yX1_copy cX1_copy 2 none 1 := ⟨⟨xw_of 356 rfl rfl, xw_of 44 (by decide +kernel) rfl, by decide, by decide, by decide +kernel⟩, xw_of 354 (by decide +kernel) rfl, xw_of 355 (by decide +kernel) rfl⟩
set_option maxRecDepth 20000 in
theorem xv_X1_trusts : xMv yX1_trusts cX1_trusts 3 (some .boolean) 2 := ⟨⟨xw_of 461 rfl rfl, xw_of 44 (by decide +kernel) rfl, by decide, by decide, by decide +kernel⟩, xw_of 459 (by decide +kernel) rfl, xw_of 460 (by decide +kernel) rfl⟩
set_option maxRecDepth 20000 in
theorem xi_X2_init : xMi yX2_init cX2_init 1 none 0 := ⟨⟨xw_of 65 rfl rfl, xw_of 42 (by decide +kernel) rfl, by decide, by decide, by decide +kernel⟩, xw_of 64 (by decide +kernel) rfl, rfl⟩
set_option maxRecDepth 20000 in
theorem xv_X2_append : xMv yX2_append cX2_append 2 none 1 := ⟨⟨xw_of 265 rfl rfl, xw_of 42 (by decide +kernel) rfl, by decide, by decide, by decide +kernel⟩, xw_of 263 (by decide +kernel) rfl, xw_of 264 (by decide +kernel) rfl⟩
set_option maxRecDepth 20000 in
theorem xv_X2_take : xMv yX2_take cX2_take 4 (some .boolean) 1 := ⟨⟨xw_of 282 rfl rfl, xw_of 42 (by decide +kernel) rfl, by decide, by decide, by decide +kernel⟩, xw_of 280 (by decide +kernel) rfl, xw_of 281 (by decide +kernel) rfl⟩
set_option maxRecDepth 20000 in
theorem xv_X2_takeNumber : xMv yX2_takeNumber cX2_takeNumber 5 (some .int) 2 := ⟨⟨xw_of 301 rfl rfl, xw_of 42 (by decide +kernel) rfl, by decide, by decide, by decide +kernel⟩, xw_of 299 (by decide +kernel) rfl, xw_of 300 (by decide +kernel) rfl⟩
set_option maxRecDepth 20000 in
theorem xv_X2_takeKind : xMv yX2_takeKind cX2_takeKind 1 (some .int) 0 := ⟨⟨xw_of 309 rfl rfl, xw_of 42 (by decide +kernel) rfl, by decide, by decide, by decide +kernel⟩, xw_of 307 (by decide +kernel) rfl, xw_of 308 (by decide +kernel) rfl⟩
set_option maxRecDepth 20000 in
theorem xv_X2_takeBelief : xMv yX2_takeBelief cX2_takeBelief 1 (some .int) 0 := ⟨⟨xw_of 335 rfl rfl, xw_of 42 (by decide +kernel) rfl, by decide, by decide, by decide +kernel⟩, xw_of 333 (by decide +kernel) rfl, xw_of 334 (by decide +kernel) rfl⟩
set_option maxRecDepth 20000 in
theorem xi_X3_init : xMi yX3_init cX3_init 1 none 0 := ⟨⟨xw_of 127 rfl rfl, xw_of 45 (by decide +kernel) rfl, by decide, by decide, by decide +kernel⟩, xw_of 126 (by decide +kernel) rfl, rfl⟩
set_option maxRecDepth 20000 in
theorem xv_X3_clear : xMv yX3_clear cX3_clear 2 none 1 := ⟨⟨xw_of 292 rfl rfl, xw_of 45 (by decide +kernel) rfl, by decide, by decide, by decide +kernel⟩, xw_of 290 (by decide +kernel) rfl, xw_of 291 (by decide +kernel) rfl⟩
set_option maxRecDepth 20000 in
theorem xv_X3_addHop : xMv yX3_addHop cX3_addHop 3 (some .boolean) 2 := ⟨⟨xw_of 318 rfl rfl, xw_of 45 (by decide +kernel) rfl, by decide, by decide, by decide +kernel⟩, xw_of 316 (by decide +kernel) rfl, xw_of 317 (by decide +kernel) rfl⟩
set_option maxRecDepth 20000 in
theorem xv_X3_begin : xMv yX3_begin cX3_begin 2 none 1 := ⟨⟨xw_of 344 rfl rfl, xw_of 45 (by decide +kernel) rfl, by decide, by decide, by decide +kernel⟩, xw_of 342 (by decide +kernel) rfl, xw_of 343 (by decide +kernel) rfl⟩
set_option maxRecDepth 20000 in
theorem xv_X3_copy : xMv yX3_copy cX3_copy 2 none 1 := ⟨⟨xw_of 360 rfl rfl, xw_of 45 (by decide +kernel) rfl, by decide, by decide, by decide +kernel⟩, xw_of 358 (by decide +kernel) rfl, xw_of 359 (by decide +kernel) rfl⟩
set_option maxRecDepth 20000 in
theorem xv_X3_tell : xMv yX3_tell cX3_tell 2 (some .int) 1 := ⟨⟨xw_of 523 rfl rfl, xw_of 45 (by decide +kernel) rfl, by decide, by decide, by decide +kernel⟩, xw_of 521 (by decide +kernel) rfl, xw_of 522 (by decide +kernel) rfl⟩
set_option maxRecDepth 20000 in
theorem xv_X3_passes : xMv yX3_passes cX3_passes 3 (some .int) 0 := ⟨⟨xw_of 527 rfl rfl, xw_of 45 (by decide +kernel) rfl, by decide, by decide, by decide +kernel⟩, xw_of 525 (by decide +kernel) rfl, xw_of 526 (by decide +kernel) rfl⟩
set_option maxRecDepth 20000 in
theorem xv_X3_sought : xMv yX3_sought cX3_sought 2 (some .int) 1 := ⟨⟨xw_of 577 rfl rfl, xw_of 45 (by decide +kernel) rfl, by decide, by decide, by decide +kernel⟩, xw_of 575 (by decide +kernel) rfl, xw_of 576 (by decide +kernel) rfl⟩
set_option maxRecDepth 20000 in
theorem xv_X3_isNarrowed : xMv yX3_isNarrowed cX3_isNarrowed 1 (some .boolean) 0 := ⟨⟨xw_of 348 rfl rfl, xw_of 45 (by decide +kernel) rfl, by decide, by decide, by decide +kernel⟩, xw_of 346 (by decide +kernel) rfl, xw_of 347 (by decide +kernel) rfl⟩
set_option maxRecDepth 20000 in
theorem xv_X3_probeSize : xMv yX3_probeSize cX3_probeSize 1 (some .int) 0 := ⟨⟨xw_of 477 rfl rfl, xw_of 45 (by decide +kernel) rfl, by decide, by decide, by decide +kernel⟩, xw_of 475 (by decide +kernel) rfl, xw_of 476 (by decide +kernel) rfl⟩
set_option maxRecDepth 20000 in
theorem xv_X3_drawn : xMv yX3_drawn cX3_drawn 5 (some .int) 2 := ⟨⟨xw_of 438 rfl rfl, xw_of 45 (by decide +kernel) rfl, by decide, by decide, by decide +kernel⟩, xw_of 436 (by decide +kernel) rfl, xw_of 437 (by decide +kernel) rfl⟩
set_option maxRecDepth 20000 in
theorem xv_X3_dropper : xMv yX3_dropper cX3_dropper 3 (some .int) 1 := ⟨⟨xw_of 450 rfl rfl, xw_of 45 (by decide +kernel) rfl, by decide, by decide, by decide +kernel⟩, xw_of 448 (by decide +kernel) rfl, xw_of 449 (by decide +kernel) rfl⟩
set_option maxRecDepth 20000 in
theorem xv_X3_meeting : xMv yX3_meeting cX3_meeting 3 (some .int) 1 := ⟨⟨xw_of 446 rfl rfl, xw_of 45 (by decide +kernel) rfl, by decide, by decide, by decide +kernel⟩, xw_of 444 (by decide +kernel) rfl, xw_of 445 (by decide +kernel) rfl⟩
set_option maxRecDepth 20000 in
theorem xv_X3_post : xMv yX3_post cX3_post 5 (some .int) 2 := ⟨⟨xw_of 434 rfl rfl, xw_of 45 (by decide +kernel) rfl, by decide, by decide, by decide +kernel⟩, xw_of 432 (by decide +kernel) rfl, xw_of 433 (by decide +kernel) rfl⟩
set_option maxRecDepth 20000 in
theorem xv_X3_isLost : xMv yX3_isLost cX3_isLost 4 (some .boolean) 3 := ⟨⟨xw_of 457 rfl rfl, xw_of 45 (by decide +kernel) rfl, by decide, by decide, by decide +kernel⟩, xw_of 455 (by decide +kernel) rfl, xw_of 456 (by decide +kernel) rfl⟩
set_option maxRecDepth 20000 in
theorem xv_X3_goOn : xMv yX3_goOn cX3_goOn 4 none 2 := ⟨⟨xw_of 422 rfl rfl, xw_of 45 (by decide +kernel) rfl, by decide, by decide, by decide +kernel⟩, xw_of 420 (by decide +kernel) rfl, xw_of 421 (by decide +kernel) rfl⟩
set_option maxRecDepth 20000 in
theorem xv_X3_step : xMv yX3_step cX3_step 6 none 1 := ⟨⟨xw_of 426 rfl rfl, xw_of 45 (by decide +kernel) rfl, by decide, by decide, by decide +kernel⟩, xw_of 424 (by decide +kernel) rfl, xw_of 425 (by decide +kernel) rfl⟩
set_option maxRecDepth 20000 in
theorem xv_X3_checkLow : xMv yX3_checkLow cX3_checkLow 5 none 1 := ⟨⟨xw_of 430 rfl rfl, xw_of 45 (by decide +kernel) rfl, by decide, by decide, by decide +kernel⟩, xw_of 429 (by decide +kernel) rfl, xw_of 6 (by decide +kernel) rfl⟩
set_option maxRecDepth 20000 in
theorem xv_X3_miss : xMv yX3_miss cX3_miss 2 none 1 := ⟨⟨xw_of 465 rfl rfl, xw_of 45 (by decide +kernel) rfl, by decide, by decide, by decide +kernel⟩, xw_of 464 (by decide +kernel) rfl, xw_of 7 (by decide +kernel) rfl⟩
set_option maxRecDepth 20000 in
theorem xv_X3_search : xMv yX3_search cX3_search 4 none 1 := ⟨⟨xw_of 473 rfl rfl, xw_of 45 (by decide +kernel) rfl, by decide, by decide, by decide +kernel⟩, xw_of 472 (by decide +kernel) rfl, xw_of 9 (by decide +kernel) rfl⟩
set_option maxRecDepth 20000 in
theorem xv_X3_lowerHigh : xMv yX3_lowerHigh cX3_lowerHigh 2 none 1 := ⟨⟨xw_of 469 rfl rfl, xw_of 45 (by decide +kernel) rfl, by decide, by decide, by decide +kernel⟩, xw_of 468 (by decide +kernel) rfl, xw_of 8 (by decide +kernel) rfl⟩
set_option maxRecDepth 20000 in
theorem xv_X3_growOlder : xMv yX3_growOlder cX3_growOlder 2 none 1 := ⟨⟨xw_of 481 rfl rfl, xw_of 45 (by decide +kernel) rfl, by decide, by decide, by decide +kernel⟩, xw_of 480 (by decide +kernel) rfl, xw_of 10 (by decide +kernel) rfl⟩
set_option maxRecDepth 20000 in
theorem xi_X4_init : xMi yX4_init cX4_init 2 none 0 := ⟨⟨xw_of 57 rfl rfl, xw_of 41 (by decide +kernel) rfl, by decide, by decide, by decide +kernel⟩, xw_of 56 (by decide +kernel) rfl, rfl⟩
set_option maxRecDepth 20000 in
theorem xv_X4_write : xMv yX4_write cX4_write 2 (some .int) 1 := ⟨⟨xw_of 393 rfl rfl, xw_of 41 (by decide +kernel) rfl, by decide, by decide, by decide +kernel⟩, xw_of 391 (by decide +kernel) rfl, xw_of 392 (by decide +kernel) rfl⟩
set_option maxRecDepth 20000 in
theorem xv_X4_wipe : xMv yX4_wipe cX4_wipe 2 (some .int) 0 := ⟨⟨xw_of 397 rfl rfl, xw_of 41 (by decide +kernel) rfl, by decide, by decide, by decide +kernel⟩, xw_of 395 (by decide +kernel) rfl, xw_of 396 (by decide +kernel) rfl⟩
set_option maxRecDepth 20000 in
theorem xv_X4_fault : xMv yX4_fault cX4_fault 1 (some .int) 0 := ⟨⟨xw_of 401 rfl rfl, xw_of 41 (by decide +kernel) rfl, by decide, by decide, by decide +kernel⟩, xw_of 399 (by decide +kernel) rfl, xw_of 400 (by decide +kernel) rfl⟩
set_option maxRecDepth 20000 in
theorem xv_X4_lay : xMv yX4_lay cX4_lay 1 (some .int) 0 := ⟨⟨xw_of 405 rfl rfl, xw_of 41 (by decide +kernel) rfl, by decide, by decide, by decide +kernel⟩, xw_of 403 (by decide +kernel) rfl, xw_of 404 (by decide +kernel) rfl⟩
set_option maxRecDepth 20000 in
theorem xv_X4_tick : xMv yX4_tick cX4_tick 4 (some .int) 1 := ⟨⟨xw_of 409 rfl rfl, xw_of 41 (by decide +kernel) rfl, by decide, by decide, by decide +kernel⟩, xw_of 407 (by decide +kernel) rfl, xw_of 408 (by decide +kernel) rfl⟩
set_option maxRecDepth 20000 in
theorem xv_X4_send : xMv yX4_send cX4_send 3 (some .int) 2 := ⟨⟨xw_of 485 rfl rfl, xw_of 41 (by decide +kernel) rfl, by decide, by decide, by decide +kernel⟩, xw_of 483 (by decide +kernel) rfl, xw_of 484 (by decide +kernel) rfl⟩
set_option maxRecDepth 20000 in
theorem xv_X4_limit : xMv yX4_limit cX4_limit 5 (some .int) 3 := ⟨⟨xw_of 495 rfl rfl, xw_of 41 (by decide +kernel) rfl, by decide, by decide, by decide +kernel⟩, xw_of 493 (by decide +kernel) rfl, xw_of 494 (by decide +kernel) rfl⟩
set_option maxRecDepth 20000 in
theorem xv_X4_kind : xMv yX4_kind cX4_kind 5 (some .int) 3 := ⟨⟨xw_of 503 rfl rfl, xw_of 41 (by decide +kernel) rfl, by decide, by decide, by decide +kernel⟩, xw_of 501 (by decide +kernel) rfl, xw_of 502 (by decide +kernel) rfl⟩
set_option maxRecDepth 20000 in
theorem xv_X4_loss : xMv yX4_loss cX4_loss 4 (some .int) 2 := ⟨⟨xw_of 507 rfl rfl, xw_of 41 (by decide +kernel) rfl, by decide, by decide, by decide +kernel⟩, xw_of 505 (by decide +kernel) rfl, xw_of 506 (by decide +kernel) rfl⟩
set_option maxRecDepth 20000 in
theorem xv_X4_believe : xMv yX4_believe cX4_believe 3 (some .int) 1 := ⟨⟨xw_of 511 rfl rfl, xw_of 41 (by decide +kernel) rfl, by decide, by decide, by decide +kernel⟩, xw_of 509 (by decide +kernel) rfl, xw_of 510 (by decide +kernel) rfl⟩
set_option maxRecDepth 20000 in
theorem xv_X4_undo : xMv yX4_undo cX4_undo 1 (some .int) 0 := ⟨⟨xw_of 515 rfl rfl, xw_of 41 (by decide +kernel) rfl, by decide, by decide, by decide +kernel⟩, xw_of 513 (by decide +kernel) rfl, xw_of 514 (by decide +kernel) rfl⟩
set_option maxRecDepth 20000 in
theorem xv_X4_way : xMv yX4_way cX4_way 3 (some .int) 2 := ⟨⟨xw_of 519 rfl rfl, xw_of 41 (by decide +kernel) rfl, by decide, by decide, by decide +kernel⟩, xw_of 517 (by decide +kernel) rfl, xw_of 518 (by decide +kernel) rfl⟩
set_option maxRecDepth 20000 in
theorem xv_X4_hop : xMv yX4_hop cX4_hop 4 (some .int) 3 := ⟨⟨xw_of 534 rfl rfl, xw_of 41 (by decide +kernel) rfl, by decide, by decide, by decide +kernel⟩, xw_of 532 (by decide +kernel) rfl, xw_of 533 (by decide +kernel) rfl⟩
set_option maxRecDepth 20000 in
theorem xv_X4_probe : xMv yX4_probe cX4_probe 2 (some .int) 1 := ⟨⟨xw_of 538 rfl rfl, xw_of 41 (by decide +kernel) rfl, by decide, by decide, by decide +kernel⟩, xw_of 536 (by decide +kernel) rfl, xw_of 537 (by decide +kernel) rfl⟩
set_option maxRecDepth 20000 in
theorem xv_X4_padding : xMv yX4_padding cX4_padding 4 (some .int) 2 := ⟨⟨xw_of 544 rfl rfl, xw_of 41 (by decide +kernel) rfl, by decide, by decide, by decide +kernel⟩, xw_of 542 (by decide +kernel) rfl, xw_of 543 (by decide +kernel) rfl⟩
set_option maxRecDepth 20000 in
theorem xv_X4_meets : xMv yX4_meets cX4_meets 4 (some .int) 3 := ⟨⟨xw_of 548 rfl rfl, xw_of 41 (by decide +kernel) rfl, by decide, by decide, by decide +kernel⟩, xw_of 546 (by decide +kernel) rfl, xw_of 547 (by decide +kernel) rfl⟩
set_option maxRecDepth 20000 in
theorem xv_X4_draw : xMv yX4_draw cX4_draw 3 (some .int) 2 := ⟨⟨xw_of 554 rfl rfl, xw_of 41 (by decide +kernel) rfl, by decide, by decide, by decide +kernel⟩, xw_of 552 (by decide +kernel) rfl, xw_of 553 (by decide +kernel) rfl⟩
set_option maxRecDepth 20000 in
theorem xv_X4_ahead : xMv yX4_ahead cX4_ahead 4 (some .int) 3 := ⟨⟨xw_of 559 rfl rfl, xw_of 41 (by decide +kernel) rfl, by decide, by decide, by decide +kernel⟩, xw_of 557 (by decide +kernel) rfl, xw_of 558 (by decide +kernel) rfl⟩
set_option maxRecDepth 20000 in
theorem xv_X4_soon : xMv yX4_soon cX4_soon 3 (some .int) 2 := ⟨⟨xw_of 569 rfl rfl, xw_of 41 (by decide +kernel) rfl, by decide, by decide, by decide +kernel⟩, xw_of 567 (by decide +kernel) rfl, xw_of 568 (by decide +kernel) rfl⟩
set_option maxRecDepth 20000 in
theorem xv_X4_best : xMv yX4_best cX4_best 6 (some .int) 1 := ⟨⟨xw_of 581 rfl rfl, xw_of 41 (by decide +kernel) rfl, by decide, by decide, by decide +kernel⟩, xw_of 579 (by decide +kernel) rfl, xw_of 580 (by decide +kernel) rfl⟩
set_option maxRecDepth 20000 in
theorem xv_X4_count : xMv yX4_count cX4_count 2 (some .int) 1 := ⟨⟨xw_of 585 rfl rfl, xw_of 41 (by decide +kernel) rfl, by decide, by decide, by decide +kernel⟩, xw_of 583 (by decide +kernel) rfl, xw_of 584 (by decide +kernel) rfl⟩
set_option maxRecDepth 20000 in
theorem xs_X4_isBetween : xMs yX4_isBetween cX4_isBetween 3 (some .boolean) 3 := ⟨⟨xw_of 304 rfl rfl, xw_of 41 (by decide +kernel) rfl, by decide, by decide, by decide +kernel⟩, xw_of 303 (by decide +kernel) rfl⟩
set_option maxRecDepth 20000 in
theorem xv_X4_isWay : xMv yX4_isWay cX4_isWay 2 (some .boolean) 1 := ⟨⟨xw_of 489 rfl rfl, xw_of 41 (by decide +kernel) rfl, by decide, by decide, by decide +kernel⟩, xw_of 488 (by decide +kernel) rfl, xw_of 11 (by decide +kernel) rfl⟩
set_option maxRecDepth 20000 in
theorem xv_X4_isHop : xMv yX4_isHop cX4_isHop 3 (some .boolean) 2 := ⟨⟨xw_of 499 rfl rfl, xw_of 41 (by decide +kernel) rfl, by decide, by decide, by decide +kernel⟩, xw_of 498 (by decide +kernel) rfl, xw_of 12 (by decide +kernel) rfl⟩
set_option maxRecDepth 20000 in
theorem xv_X4_remember : xMv yX4_remember cX4_remember 1 none 0 := ⟨⟨xw_of 414 rfl rfl, xw_of 41 (by decide +kernel) rfl, by decide, by decide, by decide +kernel⟩, xw_of 413 (by decide +kernel) rfl, xw_of 5 (by decide +kernel) rfl⟩
set_option maxRecDepth 20000 in
theorem xv_X4_startTrial : xMv yX4_startTrial cX4_startTrial 3 none 2 := ⟨⟨xw_of 563 rfl rfl, xw_of 41 (by decide +kernel) rfl, by decide, by decide, by decide +kernel⟩, xw_of 562 (by decide +kernel) rfl, xw_of 13 (by decide +kernel) rfl⟩
set_option maxRecDepth 20000 in
theorem xv_X4_ticksUntilFound : xMv yX4_ticksUntilFound cX4_ticksUntilFound 5 (some .int) 2 := ⟨⟨xw_of 573 rfl rfl, xw_of 41 (by decide +kernel) rfl, by decide, by decide, by decide +kernel⟩, xw_of 572 (by decide +kernel) rfl, xw_of 14 (by decide +kernel) rfl⟩
set_option maxRecDepth 20000 in
theorem xi_X5_init : xMi yX5_init cX5_init 1 none 0 := ⟨⟨xw_of 603 rfl rfl, xw_of 51 (by decide +kernel) rfl, by decide, by decide, by decide +kernel⟩, xw_of 602 (by decide +kernel) rfl, rfl⟩
set_option maxRecDepth 20000 in
theorem xs_X5_in : xMs yX5_in cX5_in 3 (some .boolean) 3 := ⟨⟨xw_of 664 rfl rfl, xw_of 51 (by decide +kernel) rfl, by decide, by decide, by decide +kernel⟩, xw_of 663 (by decide +kernel) rfl⟩
set_option maxRecDepth 20000 in
theorem xs_X5_lesser : xMs yX5_lesser cX5_lesser 2 (some .int) 2 := ⟨⟨xw_of 788 rfl rfl, xw_of 51 (by decide +kernel) rfl, by decide, by decide, by decide +kernel⟩, xw_of 787 (by decide +kernel) rfl⟩
set_option maxRecDepth 20000 in
theorem xs_X5_greater : xMs yX5_greater cX5_greater 2 (some .int) 2 := ⟨⟨xw_of 778 rfl rfl, xw_of 51 (by decide +kernel) rfl, by decide, by decide, by decide +kernel⟩, xw_of 777 (by decide +kernel) rfl⟩
set_option maxRecDepth 20000 in
theorem xs_X5_at : xMs yX5_at cX5_at 2 (some .int) 2 := ⟨⟨xw_of 619 rfl rfl, xw_of 51 (by decide +kernel) rfl, by decide, by decide, by decide +kernel⟩, xw_of 618 (by decide +kernel) rfl⟩
set_option maxRecDepth 20000 in
theorem xs_X5_copies : xMs yX5_copies cX5_copies 5 none 4 := ⟨⟨xw_of 626 rfl rfl, xw_of 51 (by decide +kernel) rfl, by decide, by decide, by decide +kernel⟩, xw_of 625 (by decide +kernel) rfl⟩
set_option maxRecDepth 20000 in
theorem xv_X5_begins : xMv yX5_begins cX5_begins 2 none 0 := ⟨⟨xw_of 608 rfl rfl, xw_of 51 (by decide +kernel) rfl, by decide, by decide, by decide +kernel⟩, xw_of 607 (by decide +kernel) rfl, xw_of 15 (by decide +kernel) rfl⟩
set_option maxRecDepth 20000 in
theorem xv_X5_addsWay : xMv yX5_addsWay cX5_addsWay 2 (some .boolean) 0 := ⟨⟨xw_of 612 rfl rfl, xw_of 51 (by decide +kernel) rfl, by decide, by decide, by decide +kernel⟩, xw_of 611 (by decide +kernel) rfl, xw_of 16 (by decide +kernel) rfl⟩
set_option maxRecDepth 20000 in
theorem xv_X5_addsHop : xMv yX5_addsHop cX5_addsHop 5 (some .boolean) 2 := ⟨⟨xw_of 616 rfl rfl, xw_of 51 (by decide +kernel) rfl, by decide, by decide, by decide +kernel⟩, xw_of 615 (by decide +kernel) rfl, xw_of 17 (by decide +kernel) rfl⟩
set_option maxRecDepth 20000 in
theorem xv_X5_takes : xMv yX5_takes cX5_takes 2 none 0 := ⟨⟨xw_of 623 rfl rfl, xw_of 51 (by decide +kernel) rfl, by decide, by decide, by decide +kernel⟩, xw_of 622 (by decide +kernel) rfl, xw_of 18 (by decide +kernel) rfl⟩
set_option maxRecDepth 20000 in
theorem xv_X5_isAt : xMv yX5_isAt cX5_isAt 3 (some .boolean) 2 := ⟨⟨xw_of 688 rfl rfl, xw_of 51 (by decide +kernel) rfl, by decide, by decide, by decide +kernel⟩, xw_of 687 (by decide +kernel) rfl, xw_of 22 (by decide +kernel) rfl⟩
set_option maxRecDepth 20000 in
theorem xv_X5_takesSign : xMv yX5_takesSign cX5_takesSign 3 (some .boolean) 1 := ⟨⟨xw_of 705 rfl rfl, xw_of 51 (by decide +kernel) rfl, by decide, by decide, by decide +kernel⟩, xw_of 704 (by decide +kernel) rfl, xw_of 25 (by decide +kernel) rfl⟩
set_option maxRecDepth 20000 in
theorem xv_X5_takesWord : xMv yX5_takesWord cX5_takesWord 4 (some .long) 0 := ⟨⟨xw_of 684 rfl rfl, xw_of 51 (by decide +kernel) rfl, by decide, by decide, by decide +kernel⟩, xw_of 683 (by decide +kernel) rfl, xw_of 21 (by decide +kernel) rfl⟩
set_option maxRecDepth 20000 in
theorem xv_X5_takesNumber : xMv yX5_takesNumber cX5_takesNumber 5 (some .int) 2 := ⟨⟨xw_of 701 rfl rfl, xw_of 51 (by decide +kernel) rfl, by decide, by decide, by decide +kernel⟩, xw_of 700 (by decide +kernel) rfl, xw_of 24 (by decide +kernel) rfl⟩
set_option maxRecDepth 20000 in
theorem xv_X5_puts : xMv yX5_puts cX5_puts 5 (some .boolean) 3 := ⟨⟨xw_of 718 rfl rfl, xw_of 51 (by decide +kernel) rfl, by decide, by decide, by decide +kernel⟩, xw_of 717 (by decide +kernel) rfl, xw_of 27 (by decide +kernel) rfl⟩
set_option maxRecDepth 20000 in
theorem xv_X5_takesHop : xMv yX5_takesHop cX5_takesHop 5 (some .boolean) 0 := ⟨⟨xw_of 697 rfl rfl, xw_of 51 (by decide +kernel) rfl, by decide, by decide, by decide +kernel⟩, xw_of 696 (by decide +kernel) rfl, xw_of 23 (by decide +kernel) rfl⟩
set_option maxRecDepth 20000 in
theorem xv_X5_takesBelief : xMv yX5_takesBelief cX5_takesBelief 4 (some .boolean) 0 := ⟨⟨xw_of 726 rfl rfl, xw_of 51 (by decide +kernel) rfl, by decide, by decide, by decide +kernel⟩, xw_of 725 (by decide +kernel) rfl, xw_of 28 (by decide +kernel) rfl⟩
set_option maxRecDepth 20000 in
theorem xv_X5_takesLoss : xMv yX5_takesLoss cX5_takesLoss 1 (some .boolean) 0 := ⟨⟨xw_of 714 rfl rfl, xw_of 51 (by decide +kernel) rfl, by decide, by decide, by decide +kernel⟩, xw_of 713 (by decide +kernel) rfl, xw_of 26 (by decide +kernel) rfl⟩
set_option maxRecDepth 20000 in
theorem xv_X5_takesItem : xMv yX5_takesItem cX5_takesItem 4 (some .boolean) 0 := ⟨⟨xw_of 680 rfl rfl, xw_of 51 (by decide +kernel) rfl, by decide, by decide, by decide +kernel⟩, xw_of 679 (by decide +kernel) rfl, xw_of 20 (by decide +kernel) rfl⟩
set_option maxRecDepth 20000 in
theorem xv_X5_reads : xMv yX5_reads cX5_reads 2 (some .int) 0 := ⟨⟨xw_of 676 rfl rfl, xw_of 51 (by decide +kernel) rfl, by decide, by decide, by decide +kernel⟩, xw_of 675 (by decide +kernel) rfl, xw_of 19 (by decide +kernel) rfl⟩
set_option maxRecDepth 20000 in
theorem xv_X5_write : xMv yX5_write cX5_write 2 (some .int) 1 := ⟨⟨xw_of 661 rfl rfl, xw_of 51 (by decide +kernel) rfl, by decide, by decide, by decide +kernel⟩, xw_of 659 (by decide +kernel) rfl, xw_of 660 (by decide +kernel) rfl⟩
set_option maxRecDepth 20000 in
theorem xv_X5_wipe : xMv yX5_wipe cX5_wipe 2 (some .int) 0 := ⟨⟨xw_of 668 rfl rfl, xw_of 51 (by decide +kernel) rfl, by decide, by decide, by decide +kernel⟩, xw_of 666 (by decide +kernel) rfl, xw_of 667 (by decide +kernel) rfl⟩
set_option maxRecDepth 20000 in
theorem xv_X5_fault : xMv yX5_fault cX5_fault 1 (some .int) 0 := ⟨⟨xw_of 672 rfl rfl, xw_of 51 (by decide +kernel) rfl, by decide, by decide, by decide +kernel⟩, xw_of 670 (by decide +kernel) rfl, xw_of 671 (by decide +kernel) rfl⟩
set_option maxRecDepth 20000 in
theorem xv_X5_lay : xMv yX5_lay cX5_lay 1 (some .int) 0 := ⟨⟨xw_of 734 rfl rfl, xw_of 51 (by decide +kernel) rfl, by decide, by decide, by decide +kernel⟩, xw_of 732 (by decide +kernel) rfl, xw_of 733 (by decide +kernel) rfl⟩
set_option maxRecDepth 20000 in
theorem xs_X5_drawn : xMs yX5_drawn cX5_drawn 5 (some .int) 3 := ⟨⟨xw_of 765 rfl rfl, xw_of 51 (by decide +kernel) rfl, by decide, by decide, by decide +kernel⟩, xw_of 764 (by decide +kernel) rfl⟩
set_option maxRecDepth 20000 in
theorem xs_X5_dropper : xMs yX5_dropper cX5_dropper 4 (some .int) 3 := ⟨⟨xw_of 775 rfl rfl, xw_of 51 (by decide +kernel) rfl, by decide, by decide, by decide +kernel⟩, xw_of 774 (by decide +kernel) rfl⟩
set_option maxRecDepth 20000 in
theorem xs_X5_met : xMs yX5_met cX5_met 5 (some .int) 3 := ⟨⟨xw_of 772 rfl rfl, xw_of 51 (by decide +kernel) rfl, by decide, by decide, by decide +kernel⟩, xw_of 771 (by decide +kernel) rfl⟩
set_option maxRecDepth 20000 in
theorem xs_X5_isBelieved : xMs yX5_isBelieved cX5_isBelieved 3 (some .boolean) 3 := ⟨⟨xw_of 781 rfl rfl, xw_of 51 (by decide +kernel) rfl, by decide, by decide, by decide +kernel⟩, xw_of 780 (by decide +kernel) rfl⟩
set_option maxRecDepth 20000 in
theorem xv_X5_sends : xMv yX5_sends cX5_sends 5 none 3 := ⟨⟨xw_of 762 rfl rfl, xw_of 51 (by decide +kernel) rfl, by decide, by decide, by decide +kernel⟩, xw_of 761 (by decide +kernel) rfl, xw_of 33 (by decide +kernel) rfl⟩
set_option maxRecDepth 20000 in
theorem xv_X5_isGone : xMv yX5_isGone cX5_isGone 1 (some .boolean) 0 := ⟨⟨xw_of 785 rfl rfl, xw_of 51 (by decide +kernel) rfl, by decide, by decide, by decide +kernel⟩, xw_of 784 (by decide +kernel) rfl, xw_of 34 (by decide +kernel) rfl⟩
set_option maxRecDepth 20000 in
theorem xv_X5_feels : xMv yX5_feels cX5_feels 5 none 2 := ⟨⟨xw_of 758 rfl rfl, xw_of 51 (by decide +kernel) rfl, by decide, by decide, by decide +kernel⟩, xw_of 757 (by decide +kernel) rfl, xw_of 32 (by decide +kernel) rfl⟩
set_option maxRecDepth 20000 in
theorem xs_X5_probed : xMs yX5_probed cX5_probed 3 (some .int) 2 := ⟨⟨xw_of 795 rfl rfl, xw_of 51 (by decide +kernel) rfl, by decide, by decide, by decide +kernel⟩, xw_of 794 (by decide +kernel) rfl⟩
set_option maxRecDepth 20000 in
theorem xv_X5_probes : xMv yX5_probes cX5_probes 4 none 2 := ⟨⟨xw_of 792 rfl rfl, xw_of 51 (by decide +kernel) rfl, by decide, by decide, by decide +kernel⟩, xw_of 791 (by decide +kernel) rfl, xw_of 35 (by decide +kernel) rfl⟩
set_option maxRecDepth 20000 in
theorem xv_X5_ticks : xMv yX5_ticks cX5_ticks 8 none 2 := ⟨⟨xw_of 754 rfl rfl, xw_of 51 (by decide +kernel) rfl, by decide, by decide, by decide +kernel⟩, xw_of 753 (by decide +kernel) rfl, xw_of 31 (by decide +kernel) rfl⟩
set_option maxRecDepth 20000 in
theorem xv_X5_keeps : xMv yX5_keeps cX5_keeps 2 none 0 := ⟨⟨xw_of 746 rfl rfl, xw_of 51 (by decide +kernel) rfl, by decide, by decide, by decide +kernel⟩, xw_of 745 (by decide +kernel) rfl, xw_of 29 (by decide +kernel) rfl⟩
set_option maxRecDepth 20000 in
theorem xv_X5_undo : xMv yX5_undo cX5_undo 1 (some .int) 0 := ⟨⟨xw_of 738 rfl rfl, xw_of 51 (by decide +kernel) rfl, by decide, by decide, by decide +kernel⟩, xw_of 736 (by decide +kernel) rfl, xw_of 737 (by decide +kernel) rfl⟩
set_option maxRecDepth 20000 in
theorem xv_X5_sumOf : xMv yX5_sumOf cX5_sumOf 4 (some .int) 1 := ⟨⟨xw_of 750 rfl rfl, xw_of 51 (by decide +kernel) rfl, by decide, by decide, by decide +kernel⟩, xw_of 749 (by decide +kernel) rfl, xw_of 30 (by decide +kernel) rfl⟩
set_option maxRecDepth 20000 in
theorem xv_X5_tick : xMv yX5_tick cX5_tick 5 (some .int) 1 := ⟨⟨xw_of 742 rfl rfl, xw_of 51 (by decide +kernel) rfl, by decide, by decide, by decide +kernel⟩, xw_of 740 (by decide +kernel) rfl, xw_of 741 (by decide +kernel) rfl⟩
set_option maxRecDepth 20000 in
theorem xv_X5_isWay : xMv yX5_isWay cX5_isWay 2 (some .boolean) 1 := ⟨⟨xw_of 803 rfl rfl, xw_of 51 (by decide +kernel) rfl, by decide, by decide, by decide +kernel⟩, xw_of 802 (by decide +kernel) rfl, xw_of 36 (by decide +kernel) rfl⟩
set_option maxRecDepth 20000 in
theorem xv_X5_isHop : xMv yX5_isHop cX5_isHop 3 (some .boolean) 2 := ⟨⟨xw_of 812 rfl rfl, xw_of 51 (by decide +kernel) rfl, by decide, by decide, by decide +kernel⟩, xw_of 811 (by decide +kernel) rfl, xw_of 37 (by decide +kernel) rfl⟩
set_option maxRecDepth 20000 in
theorem xv_X5_send : xMv yX5_send cX5_send 3 (some .int) 2 := ⟨⟨xw_of 799 rfl rfl, xw_of 51 (by decide +kernel) rfl, by decide, by decide, by decide +kernel⟩, xw_of 797 (by decide +kernel) rfl, xw_of 798 (by decide +kernel) rfl⟩
set_option maxRecDepth 20000 in
theorem xv_X5_changed : xMv yX5_changed cX5_changed 4 (some .int) 2 := ⟨⟨xw_of 816 rfl rfl, xw_of 51 (by decide +kernel) rfl, by decide, by decide, by decide +kernel⟩, xw_of 815 (by decide +kernel) rfl, xw_of 38 (by decide +kernel) rfl⟩
set_option maxRecDepth 20000 in
theorem xv_X5_limit : xMv yX5_limit cX5_limit 4 (some .int) 3 := ⟨⟨xw_of 808 rfl rfl, xw_of 51 (by decide +kernel) rfl, by decide, by decide, by decide +kernel⟩, xw_of 806 (by decide +kernel) rfl, xw_of 807 (by decide +kernel) rfl⟩
set_option maxRecDepth 20000 in
theorem xv_X5_kind : xMv yX5_kind cX5_kind 4 (some .int) 3 := ⟨⟨xw_of 820 rfl rfl, xw_of 51 (by decide +kernel) rfl, by decide, by decide, by decide +kernel⟩, xw_of 818 (by decide +kernel) rfl, xw_of 819 (by decide +kernel) rfl⟩
set_option maxRecDepth 20000 in
theorem xv_X5_loss : xMv yX5_loss cX5_loss 3 (some .int) 2 := ⟨⟨xw_of 824 rfl rfl, xw_of 51 (by decide +kernel) rfl, by decide, by decide, by decide +kernel⟩, xw_of 822 (by decide +kernel) rfl, xw_of 823 (by decide +kernel) rfl⟩
set_option maxRecDepth 20000 in
theorem xv_X5_believe : xMv yX5_believe cX5_believe 2 (some .int) 1 := ⟨⟨xw_of 828 rfl rfl, xw_of 51 (by decide +kernel) rfl, by decide, by decide, by decide +kernel⟩, xw_of 826 (by decide +kernel) rfl, xw_of 827 (by decide +kernel) rfl⟩
set_option maxRecDepth 20000 in
theorem xs_X5_passes : xMs yX5_passes cX5_passes 4 (some .int) 2 := ⟨⟨xw_of 835 rfl rfl, xw_of 51 (by decide +kernel) rfl, by decide, by decide, by decide +kernel⟩, xw_of 834 (by decide +kernel) rfl⟩
set_option maxRecDepth 20000 in
theorem xv_X5_way : xMv yX5_way cX5_way 3 (some .int) 2 := ⟨⟨xw_of 832 rfl rfl, xw_of 51 (by decide +kernel) rfl, by decide, by decide, by decide +kernel⟩, xw_of 830 (by decide +kernel) rfl, xw_of 831 (by decide +kernel) rfl⟩
set_option maxRecDepth 20000 in
theorem xv_X5_hop : xMv yX5_hop cX5_hop 4 (some .int) 3 := ⟨⟨xw_of 839 rfl rfl, xw_of 51 (by decide +kernel) rfl, by decide, by decide, by decide +kernel⟩, xw_of 837 (by decide +kernel) rfl, xw_of 838 (by decide +kernel) rfl⟩
set_option maxRecDepth 20000 in
theorem xv_X5_probe : xMv yX5_probe cX5_probe 2 (some .int) 1 := ⟨⟨xw_of 843 rfl rfl, xw_of 51 (by decide +kernel) rfl, by decide, by decide, by decide +kernel⟩, xw_of 841 (by decide +kernel) rfl, xw_of 842 (by decide +kernel) rfl⟩
set_option maxRecDepth 20000 in
theorem xv_X5_padding : xMv yX5_padding cX5_padding 4 (some .int) 2 := ⟨⟨xw_of 847 rfl rfl, xw_of 51 (by decide +kernel) rfl, by decide, by decide, by decide +kernel⟩, xw_of 845 (by decide +kernel) rfl, xw_of 846 (by decide +kernel) rfl⟩
set_option maxRecDepth 20000 in
theorem xv_X5_meets : xMv yX5_meets cX5_meets 4 (some .int) 3 := ⟨⟨xw_of 851 rfl rfl, xw_of 51 (by decide +kernel) rfl, by decide, by decide, by decide +kernel⟩, xw_of 849 (by decide +kernel) rfl, xw_of 850 (by decide +kernel) rfl⟩
set_option maxRecDepth 20000 in
theorem xv_X5_draw : xMv yX5_draw cX5_draw 3 (some .int) 2 := ⟨⟨xw_of 855 rfl rfl, xw_of 51 (by decide +kernel) rfl, by decide, by decide, by decide +kernel⟩, xw_of 853 (by decide +kernel) rfl, xw_of 854 (by decide +kernel) rfl⟩
set_option maxRecDepth 20000 in
theorem xv_X5_ahead : xMv yX5_ahead cX5_ahead 5 (some .int) 3 := ⟨⟨xw_of 859 rfl rfl, xw_of 51 (by decide +kernel) rfl, by decide, by decide, by decide +kernel⟩, xw_of 857 (by decide +kernel) rfl, xw_of 858 (by decide +kernel) rfl⟩
set_option maxRecDepth 20000 in
theorem xv_X5_soonBy : xMv yX5_soonBy cX5_soonBy 5 (some .int) 2 := ⟨⟨xw_of 867 rfl rfl, xw_of 51 (by decide +kernel) rfl, by decide, by decide, by decide +kernel⟩, xw_of 866 (by decide +kernel) rfl, xw_of 39 (by decide +kernel) rfl⟩
set_option maxRecDepth 20000 in
theorem xv_X5_soon : xMv yX5_soon cX5_soon 3 (some .int) 2 := ⟨⟨xw_of 863 rfl rfl, xw_of 51 (by decide +kernel) rfl, by decide, by decide, by decide +kernel⟩, xw_of 861 (by decide +kernel) rfl, xw_of 862 (by decide +kernel) rfl⟩
set_option maxRecDepth 20000 in
theorem xv_X5_best : xMv yX5_best cX5_best 7 (some .int) 1 := ⟨⟨xw_of 871 rfl rfl, xw_of 51 (by decide +kernel) rfl, by decide, by decide, by decide +kernel⟩, xw_of 869 (by decide +kernel) rfl, xw_of 870 (by decide +kernel) rfl⟩
set_option maxRecDepth 20000 in
theorem xv_X5_count : xMv yX5_count cX5_count 5 (some .int) 1 := ⟨⟨xw_of 875 rfl rfl, xw_of 51 (by decide +kernel) rfl, by decide, by decide, by decide +kernel⟩, xw_of 873 (by decide +kernel) rfl, xw_of 874 (by decide +kernel) rfl⟩
set_option maxRecDepth 20000 in
theorem xs_J9_max_7cf53 : xMs yJ9_max_7cf53 cJ9_max_7cf53 2 (some .int) 2 := ⟨⟨xw_of 453 rfl rfl, xw_of 52 (by decide +kernel) rfl, by decide, by decide, by decide +kernel⟩, xw_of 452 (by decide +kernel) rfl⟩
set_option maxRecDepth 20000 in
theorem xs_J9_min_7cf53 : xMs yJ9_min_7cf53 cJ9_min_7cf53 2 (some .int) 2 := ⟨⟨xw_of 530 rfl rfl, xw_of 52 (by decide +kernel) rfl, by decide, by decide, by decide +kernel⟩, xw_of 529 (by decide +kernel) rfl⟩
set_option maxRecDepth 20000 in
theorem xv_J0_length_8abf5 : xMv yJ0_length_8abf5 cJ0_length_8abf5 1 (some .int) 0 := ⟨⟨xw_of 217 rfl rfl, xw_of 46 (by decide +kernel) rfl, by decide, by decide, by decide +kernel⟩, xw_of 215 (by decide +kernel) rfl, xw_of 216 (by decide +kernel) rfl⟩
set_option maxRecDepth 20000 in
theorem xv_J0_charAt_5068e : xMv yJ0_charAt_5068e cJ0_charAt_5068e 2 (some .char) 1 := ⟨⟨xw_of 227 rfl rfl, xw_of 46 (by decide +kernel) rfl, by decide, by decide, by decide +kernel⟩, xw_of 225 (by decide +kernel) rfl, xw_of 226 (by decide +kernel) rfl⟩
set_option maxRecDepth 20000 in
theorem xv_J0_coder_7d493 : xMv yJ0_coder_7d493 cJ0_coder_7d493 1 (some .byte) 0 := ⟨⟨xw_of 221 rfl rfl, xw_of 46 (by decide +kernel) rfl, by decide, by decide, by decide +kernel⟩, xw_of 219 (by decide +kernel) rfl, xw_of 220 (by decide +kernel) rfl⟩
set_option maxRecDepth 20000 in
theorem xv_J0_isLatin1_aae02 : xMv yJ0_isLatin1_aae02 cJ0_isLatin1_aae02 1 (some .boolean) 0 := ⟨⟨xw_of 231 rfl rfl, xw_of 46 (by decide +kernel) rfl, by decide, by decide, by decide +kernel⟩, xw_of 229 (by decide +kernel) rfl, xw_of 230 (by decide +kernel) rfl⟩
set_option maxRecDepth 20000 in
theorem xs_J0_checkIndex_df160 : xMs yJ0_checkIndex_df160 cJ0_checkIndex_df160 2 none 2 := ⟨⟨xw_of 237 rfl rfl, xw_of 46 (by decide +kernel) rfl, by decide, by decide, by decide +kernel⟩, xw_of 236 (by decide +kernel) rfl⟩
set_option maxRecDepth 20000 in
theorem xs_J1_charAt_3b067 : xMs yJ1_charAt_3b067 cJ1_charAt_3b067 2 (some .char) 2 := ⟨⟨xw_of 234 rfl rfl, xw_of 47 (by decide +kernel) rfl, by decide, by decide, by decide +kernel⟩, xw_of 233 (by decide +kernel) rfl⟩
set_option maxRecDepth 20000 in
theorem xs_J2_getChar_3b067 : xMs yJ2_getChar_3b067 cJ2_getChar_3b067 2 (some .char) 2 := ⟨⟨xw_of 255 rfl rfl, xw_of 49 (by decide +kernel) rfl, by decide, by decide, by decide +kernel⟩, xw_of 254 (by decide +kernel) rfl⟩
set_option maxRecDepth 20000 in
theorem xs_J2_length_9d52b : xMs yJ2_length_9d52b cJ2_length_9d52b 1 (some .int) 1 := ⟨⟨xw_of 251 rfl rfl, xw_of 49 (by decide +kernel) rfl, by decide, by decide, by decide +kernel⟩, xw_of 250 (by decide +kernel) rfl⟩
set_option maxRecDepth 20000 in
theorem xs_J2_charAt_3b067 : xMs yJ2_charAt_3b067 cJ2_charAt_3b067 2 (some .char) 2 := ⟨⟨xw_of 245 rfl rfl, xw_of 49 (by decide +kernel) rfl, by decide, by decide, by decide +kernel⟩, xw_of 244 (by decide +kernel) rfl⟩
set_option maxRecDepth 20000 in
theorem xs_J2_checkIndex_2214a : xMs yJ2_checkIndex_2214a cJ2_checkIndex_2214a 2 none 2 := ⟨⟨xw_of 248 rfl rfl, xw_of 49 (by decide +kernel) rfl, by decide, by decide, by decide +kernel⟩, xw_of 247 (by decide +kernel) rfl⟩
set_option maxRecDepth 20000 in
theorem xs_J3_checkIndex_8e157 : xMs yJ3_checkIndex_8e157 cJ3_checkIndex_8e157 3 (some .int) 3 := ⟨⟨xw_of 242 rfl rfl, xw_of 48 (by decide +kernel) rfl, by decide, by decide, by decide +kernel⟩, xw_of 241 (by decide +kernel) rfl⟩
theorem xn_L_7 : xNw RL 7 4 8 [.null, .null, .null, .null, .int 0, .int 0, .null, .null] := ⟨RX4, TX4, tyX4, rfl, inWX4, tyX4_ok, xw_of 53 (by decide +kernel) rfl, xw_of 54 (by decide +kernel) rfl, xw_of 41 (by decide +kernel) rfl, by decide +kernel⟩
theorem xc_L_7 : Cond.classLink RL 7 RX4 ∈ xW := xw_of 53 (by decide +kernel) rfl
theorem xl_L_9 : Cond.methodLink RL 9 yX4_init ∈ xW := xw_of 55 (by decide +kernel) rfl
theorem xl_X4_1 : Cond.methodLink RX4 1 objectInit ∈ xW := xw_of 58 (by decide +kernel) rfl
theorem xn_X4_7 : xNw RX4 7 2 3 [.null, .int 0, .int 0] := ⟨RX2, TX2, tyX2, rfl, inWX2, tyX2_ok, xw_of 61 (by decide +kernel) rfl, xw_of 62 (by decide +kernel) rfl, xw_of 42 (by decide +kernel) rfl, by decide +kernel⟩
theorem xc_X4_7 : Cond.classLink RX4 7 RX2 ∈ xW := xw_of 61 (by decide +kernel) rfl
theorem xl_X2_3 : Cond.methodLink RX2 3 objectInit ∈ xW := xw_of 66 (by decide +kernel) rfl
theorem xn_X4_16 : xNw RX4 16 0 4 [.null, .null, .int 0, .int 0] := ⟨RX0, TX0, tyX0, rfl, inWX0, tyX0_ok, xw_of 81 (by decide +kernel) rfl, xw_of 82 (by decide +kernel) rfl, xw_of 43 (by decide +kernel) rfl, by decide +kernel⟩
theorem xc_X4_16 : Cond.classLink RX4 16 RX0 ∈ xW := xw_of 81 (by decide +kernel) rfl
theorem xl_X4_18 : Cond.methodLink RX4 18 yX0_init ∈ xW := xw_of 83 (by decide +kernel) rfl
theorem xl_X0_3 : Cond.methodLink RX0 3 objectInit ∈ xW := xw_of 86 (by decide +kernel) rfl
theorem xn_X0_9 : xNw RX0 9 1 5 [.int 0, .int 0, .int 0, .int 0, .int 0] := ⟨RX1, TX1, tyX1, rfl, inWX1, tyX1_ok, xw_of 87 (by decide +kernel) rfl, xw_of 88 (by decide +kernel) rfl, xw_of 44 (by decide +kernel) rfl, by decide +kernel⟩
theorem xc_X0_9 : Cond.classLink RX0 9 RX1 ∈ xW := xw_of 87 (by decide +kernel) rfl
theorem xl_X1_3 : Cond.methodLink RX1 3 objectInit ∈ xW := xw_of 92 (by decide +kernel) rfl
theorem xn_X0_18 : xNw RX0 18 3 15 [.int 0, .int 0, .null, .null, .int 0, .int 0, .int 0, .int 0, .int 0, .int 0, .int 0, .int 0, .int 0, .int 0, .int 0] := ⟨RX3, TX3, tyX3, rfl, inWX3, tyX3_ok, xw_of 122 (by decide +kernel) rfl, xw_of 124 (by decide +kernel) rfl, xw_of 45 (by decide +kernel) rfl, by decide +kernel⟩
theorem xc_X0_18 : Cond.classLink RX0 18 RX3 ∈ xW := xw_of 122 (by decide +kernel) rfl
theorem xl_X3_3 : Cond.methodLink RX3 3 objectInit ∈ xW := xw_of 128 (by decide +kernel) rfl
theorem xn_X4_30 : xNw RX4 30 3 15 [.int 0, .int 0, .null, .null, .int 0, .int 0, .int 0, .int 0, .int 0, .int 0, .int 0, .int 0, .int 0, .int 0, .int 0] := ⟨RX3, TX3, tyX3, rfl, inWX3, tyX3_ok, xw_of 209 (by decide +kernel) rfl, xw_of 124 (by decide +kernel) rfl, xw_of 45 (by decide +kernel) rfl, by decide +kernel⟩
theorem xc_X4_30 : Cond.classLink RX4 30 RX3 ∈ xW := xw_of 209 (by decide +kernel) rfl
theorem xn_X4_37 : xNw RX4 37 1 5 [.int 0, .int 0, .int 0, .int 0, .int 0] := ⟨RX1, TX1, tyX1, rfl, inWX1, tyX1_ok, xw_of 211 (by decide +kernel) rfl, xw_of 88 (by decide +kernel) rfl, xw_of 44 (by decide +kernel) rfl, by decide +kernel⟩
theorem xc_X4_37 : Cond.classLink RX4 37 RX1 ∈ xW := xw_of 211 (by decide +kernel) rfl
theorem xl_X4_46 : Cond.methodLink RX4 46 yJ0_length_8abf5 ∈ xW := xw_of 214 (by decide +kernel) rfl
theorem xl_J0_335 : Cond.methodLink RJ0 335 yJ0_coder_7d493 ∈ xW := xw_of 218 (by decide +kernel) rfl
theorem xl_X4_52 : Cond.methodLink RX4 52 yJ0_charAt_5068e ∈ xW := xw_of 224 (by decide +kernel) rfl
theorem xl_J0_492 : Cond.methodLink RJ0 492 yJ0_isLatin1_aae02 ∈ xW := xw_of 228 (by decide +kernel) rfl
theorem xl_J0_495 : Cond.methodLink RJ0 495 yJ1_charAt_3b067 ∈ xW := xw_of 232 (by decide +kernel) rfl
theorem xl_J1_9 : Cond.methodLink RJ1 9 yJ0_checkIndex_df160 ∈ xW := xw_of 235 (by decide +kernel) rfl
theorem xl_J0_1059 : Cond.methodLink RJ0 1059 yJ3_checkIndex_8e157 ∈ xW := xw_of 240 (by decide +kernel) rfl
theorem xl_J0_498 : Cond.methodLink RJ0 498 yJ2_charAt_3b067 ∈ xW := xw_of 243 (by decide +kernel) rfl
theorem xl_J2_67 : Cond.methodLink RJ2 67 yJ2_checkIndex_2214a ∈ xW := xw_of 246 (by decide +kernel) rfl
theorem xl_J2_48 : Cond.methodLink RJ2 48 yJ2_length_9d52b ∈ xW := xw_of 249 (by decide +kernel) rfl
theorem xl_J2_414 : Cond.methodLink RJ2 414 yJ0_checkIndex_df160 ∈ xW := xw_of 252 (by decide +kernel) rfl
theorem xl_J2_71 : Cond.methodLink RJ2 71 yJ2_getChar_3b067 ∈ xW := xw_of 253 (by decide +kernel) rfl
theorem xl_X4_56 : Cond.methodLink RX4 56 yX2_append ∈ xW := xw_of 262 (by decide +kernel) rfl
theorem xl_X4_60 : Cond.methodLink RX4 60 yX0_read ∈ xW := xw_of 266 (by decide +kernel) rfl
theorem xl_X0_57 : Cond.methodLink RX0 57 yX1_clear ∈ xW := xw_of 270 (by decide +kernel) rfl
theorem xl_X0_68 : Cond.methodLink RX0 68 yX0_readItem ∈ xW := xw_of 274 (by decide +kernel) rfl
theorem xl_X0_74 : Cond.methodLink RX0 74 yX2_take ∈ xW := xw_of 279 (by decide +kernel) rfl
theorem xl_X2_22 : Cond.methodLink RX2 22 yJ0_length_8abf5 ∈ xW := xw_of 283 (by decide +kernel) rfl
theorem xl_X2_27 : Cond.methodLink RX2 27 yJ0_charAt_5068e ∈ xW := xw_of 284 (by decide +kernel) rfl
theorem xl_X0_83 : Cond.methodLink RX0 83 yX0_addWay ∈ xW := xw_of 285 (by decide +kernel) rfl
theorem xl_X0_100 : Cond.methodLink RX0 100 yX3_clear ∈ xW := xw_of 289 (by decide +kernel) rfl
theorem xl_X0_89 : Cond.methodLink RX0 89 yX0_readHop ∈ xW := xw_of 294 (by decide +kernel) rfl
theorem xl_X0_103 : Cond.methodLink RX0 103 yX2_takeNumber ∈ xW := xw_of 298 (by decide +kernel) rfl
theorem xl_X0_108 : Cond.methodLink RX0 108 yX2_takeKind ∈ xW := xw_of 306 (by decide +kernel) rfl
theorem xl_X2_37 : Cond.methodLink RX2 37 yX2_take ∈ xW := xw_of 311 (by decide +kernel) rfl
theorem xl_X0_112 : Cond.methodLink RX0 112 yX3_addHop ∈ xW := xw_of 315 (by decide +kernel) rfl
theorem xl_X0_94 : Cond.methodLink RX0 94 yX0_readLoss ∈ xW := xw_of 320 (by decide +kernel) rfl
theorem xl_X0_97 : Cond.methodLink RX0 97 yX0_readRule ∈ xW := xw_of 324 (by decide +kernel) rfl
theorem xl_X0_136 : Cond.methodLink RX0 136 yX2_takeBelief ∈ xW := xw_of 332 (by decide +kernel) rfl
theorem xl_X0_78 : Cond.methodLink RX0 78 yX3_begin ∈ xW := xw_of 341 (by decide +kernel) rfl
theorem xl_X3_42 : Cond.methodLink RX3 42 yX3_isNarrowed ∈ xW := xw_of 345 (by decide +kernel) rfl
theorem xl_X4_64 : Cond.methodLink RX4 64 yX0_copy ∈ xW := xw_of 349 (by decide +kernel) rfl
theorem xl_X0_25 : Cond.methodLink RX0 25 yX1_copy ∈ xW := xw_of 353 (by decide +kernel) rfl
theorem xl_X0_33 : Cond.methodLink RX0 33 yX3_copy ∈ xW := xw_of 357 (by decide +kernel) rfl
theorem xl_X3_70 : Cond.methodLink RX3 70 arraycopyName ∈ xW := xw_of 361 (by decide +kernel) rfl
theorem xl_L_13 : Cond.methodLink RL 13 yX4_write ∈ xW := xw_of 390 (by decide +kernel) rfl
theorem xl_L_18 : Cond.methodLink RL 18 yX4_wipe ∈ xW := xw_of 394 (by decide +kernel) rfl
theorem xl_L_23 : Cond.methodLink RL 23 yX4_fault ∈ xW := xw_of 398 (by decide +kernel) rfl
theorem xl_L_27 : Cond.methodLink RL 27 yX4_lay ∈ xW := xw_of 402 (by decide +kernel) rfl
theorem xl_L_31 : Cond.methodLink RL 31 yX4_tick ∈ xW := xw_of 406 (by decide +kernel) rfl
theorem xl_X4_77 : Cond.methodLink RX4 77 yX4_isBetween ∈ xW := xw_of 410 (by decide +kernel) rfl
theorem xl_X4_84 : Cond.methodLink RX4 84 yX4_remember ∈ xW := xw_of 411 (by decide +kernel) rfl
theorem xl_X4_87 : Cond.methodLink RX4 87 yX0_allLost ∈ xW := xw_of 415 (by decide +kernel) rfl
theorem xl_X4_97 : Cond.methodLink RX4 97 yX3_goOn ∈ xW := xw_of 419 (by decide +kernel) rfl
theorem xl_X3_119 : Cond.methodLink RX3 119 yX3_step ∈ xW := xw_of 423 (by decide +kernel) rfl
theorem xl_X3_123 : Cond.methodLink RX3 123 yX3_checkLow ∈ xW := xw_of 427 (by decide +kernel) rfl
theorem xl_X3_132 : Cond.methodLink RX3 132 yX3_post ∈ xW := xw_of 431 (by decide +kernel) rfl
theorem xl_X3_104 : Cond.methodLink RX3 104 yX3_drawn ∈ xW := xw_of 435 (by decide +kernel) rfl
theorem xk_X3_89 : Cond.constantLong RX3 89 (7919) ∈ xW := xw_of 439 (by decide +kernel) rfl
theorem xk_X3_94 : Cond.constantLong RX3 94 (6151) ∈ xW := xw_of 440 (by decide +kernel) rfl
theorem xk_X3_96 : Cond.constantLong RX3 96 (3571) ∈ xW := xw_of 441 (by decide +kernel) rfl
theorem xk_X3_98 : Cond.constantLong RX3 98 (65521) ∈ xW := xw_of 442 (by decide +kernel) rfl
theorem xl_X3_108 : Cond.methodLink RX3 108 yX3_meeting ∈ xW := xw_of 443 (by decide +kernel) rfl
theorem xl_X3_100 : Cond.methodLink RX3 100 yX3_dropper ∈ xW := xw_of 447 (by decide +kernel) rfl
theorem xl_X3_86 : Cond.methodLink RX3 86 Lib.Math.max.name ∈ xW := xw_of 451 (by decide +kernel) rfl
theorem xl_X3_111 : Cond.methodLink RX3 111 yX3_isLost ∈ xW := xw_of 454 (by decide +kernel) rfl
theorem xl_X3_115 : Cond.methodLink RX3 115 yX1_trusts ∈ xW := xw_of 458 (by decide +kernel) rfl
theorem xl_X3_135 : Cond.methodLink RX3 135 yX3_miss ∈ xW := xw_of 462 (by decide +kernel) rfl
theorem xl_X3_138 : Cond.methodLink RX3 138 yX3_lowerHigh ∈ xW := xw_of 466 (by decide +kernel) rfl
theorem xl_X3_126 : Cond.methodLink RX3 126 yX3_search ∈ xW := xw_of 470 (by decide +kernel) rfl
theorem xl_X3_142 : Cond.methodLink RX3 142 yX3_probeSize ∈ xW := xw_of 474 (by decide +kernel) rfl
theorem xl_X3_129 : Cond.methodLink RX3 129 yX3_growOlder ∈ xW := xw_of 478 (by decide +kernel) rfl
theorem xl_L_35 : Cond.methodLink RL 35 yX4_send ∈ xW := xw_of 482 (by decide +kernel) rfl
theorem xl_X4_101 : Cond.methodLink RX4 101 yX4_isWay ∈ xW := xw_of 486 (by decide +kernel) rfl
theorem xk_X4_108 : Cond.constant RX4 108 (99999) ∈ xW := xw_of 490 (by decide +kernel) rfl
theorem xl_X4_109 : Cond.methodLink RX4 109 yX3_post ∈ xW := xw_of 491 (by decide +kernel) rfl
theorem xl_L_40 : Cond.methodLink RL 40 yX4_limit ∈ xW := xw_of 492 (by decide +kernel) rfl
theorem xl_X4_113 : Cond.methodLink RX4 113 yX4_isHop ∈ xW := xw_of 496 (by decide +kernel) rfl
theorem xl_L_45 : Cond.methodLink RL 45 yX4_kind ∈ xW := xw_of 500 (by decide +kernel) rfl
theorem xl_L_49 : Cond.methodLink RL 49 yX4_loss ∈ xW := xw_of 504 (by decide +kernel) rfl
theorem xl_L_53 : Cond.methodLink RL 53 yX4_believe ∈ xW := xw_of 508 (by decide +kernel) rfl
theorem xl_L_57 : Cond.methodLink RL 57 yX4_undo ∈ xW := xw_of 512 (by decide +kernel) rfl
theorem xl_L_61 : Cond.methodLink RL 61 yX4_way ∈ xW := xw_of 516 (by decide +kernel) rfl
theorem xl_X4_133 : Cond.methodLink RX4 133 yX3_tell ∈ xW := xw_of 520 (by decide +kernel) rfl
theorem xl_X3_76 : Cond.methodLink RX3 76 yX3_passes ∈ xW := xw_of 524 (by decide +kernel) rfl
theorem xl_X3_80 : Cond.methodLink RX3 80 Lib.Math.min.name ∈ xW := xw_of 528 (by decide +kernel) rfl
theorem xl_L_65 : Cond.methodLink RL 65 yX4_hop ∈ xW := xw_of 531 (by decide +kernel) rfl
theorem xl_L_69 : Cond.methodLink RL 69 yX4_probe ∈ xW := xw_of 535 (by decide +kernel) rfl
theorem xl_X4_137 : Cond.methodLink RX4 137 yX3_isNarrowed ∈ xW := xw_of 539 (by decide +kernel) rfl
theorem xl_X4_141 : Cond.methodLink RX4 141 yX3_probeSize ∈ xW := xw_of 540 (by decide +kernel) rfl
theorem xl_L_73 : Cond.methodLink RL 73 yX4_padding ∈ xW := xw_of 541 (by decide +kernel) rfl
theorem xl_L_77 : Cond.methodLink RL 77 yX4_meets ∈ xW := xw_of 545 (by decide +kernel) rfl
theorem xl_X4_144 : Cond.methodLink RX4 144 yX3_meeting ∈ xW := xw_of 549 (by decide +kernel) rfl
theorem xl_X4_147 : Cond.methodLink RX4 147 yX3_dropper ∈ xW := xw_of 550 (by decide +kernel) rfl
theorem xl_L_81 : Cond.methodLink RL 81 yX4_draw ∈ xW := xw_of 551 (by decide +kernel) rfl
theorem xl_X4_150 : Cond.methodLink RX4 150 yX3_drawn ∈ xW := xw_of 555 (by decide +kernel) rfl
theorem xl_L_85 : Cond.methodLink RL 85 yX4_ahead ∈ xW := xw_of 556 (by decide +kernel) rfl
theorem xl_X4_153 : Cond.methodLink RX4 153 yX4_startTrial ∈ xW := xw_of 560 (by decide +kernel) rfl
theorem xl_X4_197 : Cond.methodLink RX4 197 yX3_copy ∈ xW := xw_of 564 (by decide +kernel) rfl
theorem xl_X4_200 : Cond.methodLink RX4 200 yX1_copy ∈ xW := xw_of 565 (by decide +kernel) rfl
theorem xl_L_89 : Cond.methodLink RL 89 yX4_soon ∈ xW := xw_of 566 (by decide +kernel) rfl
theorem xl_X4_172 : Cond.methodLink RX4 172 yX4_ticksUntilFound ∈ xW := xw_of 570 (by decide +kernel) rfl
theorem xl_X4_203 : Cond.methodLink RX4 203 yX3_sought ∈ xW := xw_of 574 (by decide +kernel) rfl
theorem xl_L_93 : Cond.methodLink RL 93 yX4_best ∈ xW := xw_of 578 (by decide +kernel) rfl
theorem xl_L_97 : Cond.methodLink RL 97 yX4_count ∈ xW := xw_of 582 (by decide +kernel) rfl
theorem xl_X4_185 : Cond.methodLink RX4 185 yX0_leastLow ∈ xW := xw_of 586 (by decide +kernel) rfl
theorem xl_X0_42 : Cond.methodLink RX0 42 Lib.Math.min.name ∈ xW := xw_of 590 (by decide +kernel) rfl
theorem xl_X4_188 : Cond.methodLink RX4 188 yX0_allDone ∈ xW := xw_of 591 (by decide +kernel) rfl
theorem xl_X4_191 : Cond.methodLink RX4 191 yX0_allSent ∈ xW := xw_of 595 (by decide +kernel) rfl
theorem xn_L_10 : xNw RL 10 5 10 [.null, .null, .null, .null, .int 0, .null, .int 0, .int 0, .int 0, .int 0] := ⟨RX5, TX5, tyX5, rfl, inWX5, tyX5_ok, xw_of 599 (by decide +kernel) rfl, xw_of 600 (by decide +kernel) rfl, xw_of 51 (by decide +kernel) rfl, by decide +kernel⟩
theorem xc_L_10 : Cond.classLink RL 10 RX5 ∈ xW := xw_of 599 (by decide +kernel) rfl
theorem xl_L_12 : Cond.methodLink RL 12 yX5_init ∈ xW := xw_of 601 (by decide +kernel) rfl
theorem xl_X5_1 : Cond.methodLink RX5 1 objectInit ∈ xW := xw_of 604 (by decide +kernel) rfl
theorem xl_X5_25 : Cond.methodLink RX5 25 yX5_begins ∈ xW := xw_of 605 (by decide +kernel) rfl
theorem xl_X5_28 : Cond.methodLink RX5 28 yX5_addsWay ∈ xW := xw_of 609 (by decide +kernel) rfl
theorem xl_X5_32 : Cond.methodLink RX5 32 yX5_addsHop ∈ xW := xw_of 613 (by decide +kernel) rfl
theorem xl_X5_36 : Cond.methodLink RX5 36 yX5_at ∈ xW := xw_of 617 (by decide +kernel) rfl
theorem xl_X5_40 : Cond.methodLink RX5 40 yX5_takes ∈ xW := xw_of 620 (by decide +kernel) rfl
theorem xl_X5_43 : Cond.methodLink RX5 43 yX5_copies ∈ xW := xw_of 624 (by decide +kernel) rfl
theorem xl_L_17 : Cond.methodLink RL 17 yX5_write ∈ xW := xw_of 658 (by decide +kernel) rfl
theorem xl_X5_57 : Cond.methodLink RX5 57 yX5_in ∈ xW := xw_of 662 (by decide +kernel) rfl
theorem xl_L_22 : Cond.methodLink RL 22 yX5_wipe ∈ xW := xw_of 665 (by decide +kernel) rfl
theorem xl_L_26 : Cond.methodLink RL 26 yX5_fault ∈ xW := xw_of 669 (by decide +kernel) rfl
theorem xl_X5_126 : Cond.methodLink RX5 126 yX5_reads ∈ xW := xw_of 673 (by decide +kernel) rfl
theorem xl_X5_123 : Cond.methodLink RX5 123 yX5_takesItem ∈ xW := xw_of 677 (by decide +kernel) rfl
theorem xl_X5_77 : Cond.methodLink RX5 77 yX5_takesWord ∈ xW := xw_of 681 (by decide +kernel) rfl
theorem xl_X5_61 : Cond.methodLink RX5 61 yX5_isAt ∈ xW := xw_of 685 (by decide +kernel) rfl
theorem xk_X5_64 : Cond.constantLong RX5 64 (32) ∈ xW := xw_of 689 (by decide +kernel) rfl
theorem xk_X5_66 : Cond.constantLong RX5 66 (96) ∈ xW := xw_of 690 (by decide +kernel) rfl
theorem xk_X5_68 : Cond.constantLong RX5 68 (-4) ∈ xW := xw_of 691 (by decide +kernel) rfl
theorem xk_X5_98 : Cond.constantLong RX5 98 (23609) ∈ xW := xw_of 692 (by decide +kernel) rfl
theorem xk_X5_100 : Cond.constantLong RX5 100 (8688) ∈ xW := xw_of 693 (by decide +kernel) rfl
theorem xl_X5_102 : Cond.methodLink RX5 102 yX5_takesHop ∈ xW := xw_of 694 (by decide +kernel) rfl
theorem xl_X5_74 : Cond.methodLink RX5 74 yX5_takesNumber ∈ xW := xw_of 698 (by decide +kernel) rfl
theorem xl_X5_70 : Cond.methodLink RX5 70 yX5_takesSign ∈ xW := xw_of 702 (by decide +kernel) rfl
theorem xk_X5_81 : Cond.constantLong RX5 81 (660876) ∈ xW := xw_of 706 (by decide +kernel) rfl
theorem xk_X5_83 : Cond.constantLong RX5 83 (24722887) ∈ xW := xw_of 707 (by decide +kernel) rfl
theorem xk_X5_85 : Cond.constantLong RX5 85 (15748) ∈ xW := xw_of 708 (by decide +kernel) rfl
theorem xk_X5_87 : Cond.constantLong RX5 87 (647370196) ∈ xW := xw_of 709 (by decide +kernel) rfl
theorem xk_X5_105 : Cond.constantLong RX5 105 (409203) ∈ xW := xw_of 710 (by decide +kernel) rfl
theorem xl_X5_107 : Cond.methodLink RX5 107 yX5_takesLoss ∈ xW := xw_of 711 (by decide +kernel) rfl
theorem xl_X5_95 : Cond.methodLink RX5 95 yX5_puts ∈ xW := xw_of 715 (by decide +kernel) rfl
theorem xk_X5_110 : Cond.constantLong RX5 110 (67173) ∈ xW := xw_of 719 (by decide +kernel) rfl
theorem xk_X5_112 : Cond.constantLong RX5 112 (20976) ∈ xW := xw_of 720 (by decide +kernel) rfl
theorem xk_X5_114 : Cond.constantLong RX5 114 (1253) ∈ xW := xw_of 721 (by decide +kernel) rfl
theorem xk_X5_116 : Cond.constantLong RX5 116 (2328139461) ∈ xW := xw_of 722 (by decide +kernel) rfl
theorem xl_X5_118 : Cond.methodLink RX5 118 yX5_takesBelief ∈ xW := xw_of 723 (by decide +kernel) rfl
theorem xk_X5_89 : Cond.constantLong RX5 89 (1420) ∈ xW := xw_of 727 (by decide +kernel) rfl
theorem xk_X5_91 : Cond.constantLong RX5 91 (3495013540) ∈ xW := xw_of 728 (by decide +kernel) rfl
theorem xk_X5_93 : Cond.constantLong RX5 93 (474565) ∈ xW := xw_of 729 (by decide +kernel) rfl
theorem xk_X5_121 : Cond.constantLong RX5 121 (4785907) ∈ xW := xw_of 730 (by decide +kernel) rfl
theorem xl_L_30 : Cond.methodLink RL 30 yX5_lay ∈ xW := xw_of 731 (by decide +kernel) rfl
theorem xl_L_60 : Cond.methodLink RL 60 yX5_undo ∈ xW := xw_of 735 (by decide +kernel) rfl
theorem xl_L_34 : Cond.methodLink RL 34 yX5_tick ∈ xW := xw_of 739 (by decide +kernel) rfl
theorem xl_X5_183 : Cond.methodLink RX5 183 yX5_keeps ∈ xW := xw_of 743 (by decide +kernel) rfl
theorem xl_X5_186 : Cond.methodLink RX5 186 yX5_sumOf ∈ xW := xw_of 747 (by decide +kernel) rfl
theorem xl_X5_190 : Cond.methodLink RX5 190 yX5_ticks ∈ xW := xw_of 751 (by decide +kernel) rfl
theorem xl_X5_176 : Cond.methodLink RX5 176 yX5_feels ∈ xW := xw_of 755 (by decide +kernel) rfl
theorem xl_X5_165 : Cond.methodLink RX5 165 yX5_sends ∈ xW := xw_of 759 (by decide +kernel) rfl
theorem xl_X5_145 : Cond.methodLink RX5 145 yX5_drawn ∈ xW := xw_of 763 (by decide +kernel) rfl
theorem xk_X5_130 : Cond.constantLong RX5 130 (7919) ∈ xW := xw_of 766 (by decide +kernel) rfl
theorem xk_X5_132 : Cond.constantLong RX5 132 (6151) ∈ xW := xw_of 767 (by decide +kernel) rfl
theorem xk_X5_134 : Cond.constantLong RX5 134 (3571) ∈ xW := xw_of 768 (by decide +kernel) rfl
theorem xk_X5_136 : Cond.constantLong RX5 136 (65521) ∈ xW := xw_of 769 (by decide +kernel) rfl
theorem xl_X5_148 : Cond.methodLink RX5 148 yX5_met ∈ xW := xw_of 770 (by decide +kernel) rfl
theorem xl_X5_138 : Cond.methodLink RX5 138 yX5_dropper ∈ xW := xw_of 773 (by decide +kernel) rfl
theorem xl_X5_142 : Cond.methodLink RX5 142 yX5_greater ∈ xW := xw_of 776 (by decide +kernel) rfl
theorem xl_X5_154 : Cond.methodLink RX5 154 yX5_isBelieved ∈ xW := xw_of 779 (by decide +kernel) rfl
theorem xl_X5_162 : Cond.methodLink RX5 162 yX5_isGone ∈ xW := xw_of 782 (by decide +kernel) rfl
theorem xl_X5_169 : Cond.methodLink RX5 169 yX5_lesser ∈ xW := xw_of 786 (by decide +kernel) rfl
theorem xl_X5_180 : Cond.methodLink RX5 180 yX5_probes ∈ xW := xw_of 789 (by decide +kernel) rfl
theorem xl_X5_172 : Cond.methodLink RX5 172 yX5_probed ∈ xW := xw_of 793 (by decide +kernel) rfl
theorem xl_L_39 : Cond.methodLink RL 39 yX5_send ∈ xW := xw_of 796 (by decide +kernel) rfl
theorem xl_X5_193 : Cond.methodLink RX5 193 yX5_isWay ∈ xW := xw_of 800 (by decide +kernel) rfl
theorem xk_X5_196 : Cond.constant RX5 196 (99999) ∈ xW := xw_of 804 (by decide +kernel) rfl
theorem xl_L_44 : Cond.methodLink RL 44 yX5_limit ∈ xW := xw_of 805 (by decide +kernel) rfl
theorem xl_X5_197 : Cond.methodLink RX5 197 yX5_isHop ∈ xW := xw_of 809 (by decide +kernel) rfl
theorem xl_X5_200 : Cond.methodLink RX5 200 yX5_changed ∈ xW := xw_of 813 (by decide +kernel) rfl
theorem xl_L_48 : Cond.methodLink RL 48 yX5_kind ∈ xW := xw_of 817 (by decide +kernel) rfl
theorem xl_L_52 : Cond.methodLink RL 52 yX5_loss ∈ xW := xw_of 821 (by decide +kernel) rfl
theorem xl_L_56 : Cond.methodLink RL 56 yX5_believe ∈ xW := xw_of 825 (by decide +kernel) rfl
theorem xl_L_64 : Cond.methodLink RL 64 yX5_way ∈ xW := xw_of 829 (by decide +kernel) rfl
theorem xl_X5_203 : Cond.methodLink RX5 203 yX5_passes ∈ xW := xw_of 833 (by decide +kernel) rfl
theorem xl_L_68 : Cond.methodLink RL 68 yX5_hop ∈ xW := xw_of 836 (by decide +kernel) rfl
theorem xl_L_72 : Cond.methodLink RL 72 yX5_probe ∈ xW := xw_of 840 (by decide +kernel) rfl
theorem xl_L_76 : Cond.methodLink RL 76 yX5_padding ∈ xW := xw_of 844 (by decide +kernel) rfl
theorem xl_L_80 : Cond.methodLink RL 80 yX5_meets ∈ xW := xw_of 848 (by decide +kernel) rfl
theorem xl_L_84 : Cond.methodLink RL 84 yX5_draw ∈ xW := xw_of 852 (by decide +kernel) rfl
theorem xl_L_88 : Cond.methodLink RL 88 yX5_ahead ∈ xW := xw_of 856 (by decide +kernel) rfl
theorem xl_L_92 : Cond.methodLink RL 92 yX5_soon ∈ xW := xw_of 860 (by decide +kernel) rfl
theorem xl_X5_206 : Cond.methodLink RX5 206 yX5_soonBy ∈ xW := xw_of 864 (by decide +kernel) rfl
theorem xl_L_96 : Cond.methodLink RL 96 yX5_best ∈ xW := xw_of 868 (by decide +kernel) rfl
theorem xl_L_100 : Cond.methodLink RL 100 yX5_count ∈ xW := xw_of 872 (by decide +kernel) rfl
theorem xw_oi : Cond.instanceMethod objectInit ∈ xW := xw_of 59 (by decide +kernel) rfl
set_option maxRecDepth 20000 in
theorem xw_oc : Cond.code objectInit ⟨#[0xb1]⟩ 1 none ∈ xW := xw_of 60 (by decide +kernel) rfl
theorem xw_maxs : Cond.static Lib.Math.max.name ∈ xW := xw_of 452 (by decide +kernel) rfl
set_option maxRecDepth 20000 in
theorem xw_maxc : Cond.code Lib.Math.max.name Lib.Math.max.code 2 (some .int) ∈ xW := xw_of 453 (by decide +kernel) rfl
theorem xw_mins : Cond.static Lib.Math.min.name ∈ xW := xw_of 529 (by decide +kernel) rfl
set_option maxRecDepth 20000 in
theorem xw_minc : Cond.code Lib.Math.min.name Lib.Math.min.code 2 (some .int) ∈ xW := xw_of 530 (by decide +kernel) rfl
theorem xw_math : Cond.initialized "java/lang/Math" ∈ xW := xw_of 52 (by decide +kernel) rfl
theorem xw_acn : Cond.native arraycopyName ∈ xW := xw_of 363 (by decide +kernel) rfl
theorem xw_acs : Cond.static arraycopyName ∈ xW := xw_of 362 (by decide +kernel) rfl
theorem xw_sys : Cond.initialized "java/lang/System" ∈ xW := xw_of 50 (by decide +kernel) rfl
theorem xw_arr_int : Cond.arrayClass .int ∈ xW := xw_of 190 (by decide +kernel) rfl
theorem xw_arr_char : Cond.arrayClass .char ∈ xW := xw_of 80 (by decide +kernel) rfl
end
section
def xStr : List (String × Nat × String) := [(RX4, 44, "way;hop 700 tell;hop 333 silent;way;hop 500 wrong;hop 900 tell;loss 10;way;hop 640 old;"), (RX0, 81, "way"), (RX0, 87, "hop "), (RX0, 106, " "), (RX2, 35, "tell"), (RX2, 41, "wrong"), (RX2, 43, "old"), (RX2, 45, "silent"), (RX0, 92, "loss "), (RX0, 119, "base "), (RX0, 124, "top "), (RX0, 129, "age "), (RX0, 134, "believe "), (RX2, 47, "all"), (RX2, 49, "checked"), (RX2, 51, "none"), (RX0, 142, "draws "), (RX0, 72, ";")]
def xLen : List Nat := [87, 3, 4, 1, 4, 5, 3, 6, 5, 5, 4, 4, 8, 3, 7, 4, 6, 1]
def xByt : List (List Int32) := [[119, 97, 121, 59, 104, 111, 112, 32, 55, 48, 48, 32, 116, 101, 108, 108, 59, 104, 111, 112, 32, 51, 51, 51, 32, 115, 105, 108, 101, 110, 116, 59, 119, 97, 121, 59, 104, 111, 112, 32, 53, 48, 48, 32, 119, 114, 111, 110, 103, 59, 104, 111, 112, 32, 57, 48, 48, 32, 116, 101, 108, 108, 59, 108, 111, 115, 115, 32, 49, 48, 59, 119, 97, 121, 59, 104, 111, 112, 32, 54, 52, 48, 32, 111, 108, 100, 59], [119, 97, 121], [104, 111, 112, 32], [32], [116, 101, 108, 108], [119, 114, 111, 110, 103], [111, 108, 100], [115, 105, 108, 101, 110, 116], [108, 111, 115, 115, 32], [98, 97, 115, 101, 32], [116, 111, 112, 32], [97, 103, 101, 32], [98, 101, 108, 105, 101, 118, 101, 32], [97, 108, 108], [99, 104, 101, 99, 107, 101, 100], [110, 111, 110, 101], [100, 114, 97, 119, 115, 32], [59]]
def xNest : List Cond := [.methodLinkNest RX4 9 ⟨RX2, "<init>", "()V"⟩ "GreatProbes", .methodLinkNest RX0 11 ⟨RX1, "<init>", "()V"⟩ "GreatProbes", .methodLinkNest RX0 24 ⟨RX3, "<init>", "()V"⟩ "GreatProbes", .methodLinkNest RX4 32 ⟨RX3, "<init>", "()V"⟩ "GreatProbes", .methodLinkNest RX4 39 ⟨RX1, "<init>", "()V"⟩ "GreatProbes", .methodLinkNest RX2 31 ⟨RX4, "isBetween", "(III)Z"⟩ "GreatProbes"]
/-! THE LAYER: the machine's walk with its contexts hidden (Wp), contracts of whole methods (Ct), and a pure heap (xH): which cell holds what, by its address. -/
abbrev xG : Type := Launch × va_G × (Nat → ClassId) × Nat × (Nat → Nat) × (Nat → Nat) × Nat × Nat × (Nat → Int32)
abbrev xg_D (G : xG) : va_G := G.2.1
abbrev xg_a (G : xG) : Nat → ClassId := G.2.2.1
abbrev xg_n (G : xG) : Nat := G.2.2.2.1
abbrev xg_sK (G : xG) : Nat → Nat := G.2.2.2.2.1
abbrev xg_sV (G : xG) : Nat → Nat := G.2.2.2.2.2.1
abbrev xg_b (G : xG) : Nat := G.2.2.2.2.2.2.1
abbrev xg_L (G : xG) : Nat := G.2.2.2.2.2.2.2.1
abbrev xg_x (G : xG) : Nat → Int32 := G.2.2.2.2.2.2.2.2
/-- the cells that the run may change: those that came since its start -/
def xA (G : xG) : Nat → Prop := fun q => xg_n G ≤ q
abbrev xT (G : xG) : List (ClassId × FieldType) := [(xg_a G 0, .int), (xg_a G 1, .char), (xg_a G 2, .object RX0), (xg_a G 3, .object RX3)]
/-- a cell: a row (its kind's number, its length and contents), or an object (its class's number, its fields) -/
abbrev gE : Type := (Nat × vp_A) ⊕ (Nat × List Value)
def xTo (G : xG) (e : gE) : va_E := match e with
  | .inl a => .inl (xg_a G a.1, a.2)
  | .inr o => .inr o
abbrev xH : Type := Nat × (Nat → Option gE)
def hAt (h : xH) (a : Nat) : Option gE := h.2 a
def hSet (h : xH) (a : Nat) (e : gE) : xH := (h.1, fun q => if q = a then some e else h.2 q)
def hNew (h : xH) (e : gE) : xH := (h.1 + 1, fun q => if q = h.1 then some e else h.2 q)
theorem hAt_same {h : xH} {a : Nat} {e : gE} : hAt (hSet h a e) a = some e := by simp [hAt, hSet]
theorem hAt_ne {h : xH} {a b : Nat} {e : gE} (hb : b ≠ a) : hAt (hSet h a e) b = hAt h b := by simp [hAt, hSet, hb]
/-- another cell than the one that was put: it holds another thing -/
theorem hAt_oth {h : xH} {a b : Nat} {e e0 e1 : gE} (ha : hAt h a = some e0) (hb : hAt h b = some e1) (hne : e1 ≠ e0) : hAt (hSet h a e) b = some e1 := by
  rw [hAt_ne]
  · exact hb
  · intro hq
    rw [hq, ha] at hb
    exact hne (Option.some.inj hb).symm
/-- the kind of a cell -/
def gk (e : gE) : Nat := match e with
  | .inl a => 2 * a.1
  | .inr o => 2 * o.1 + 1
theorem hAt_k {h : xH} {a b : Nat} {e e0 e1 : gE} (ha : hAt h a = some e0) (hb : hAt h b = some e1) (hne : Nat.beq (gk e1) (gk e0) = false) : hAt (hSet h a e) b = some e1 := hAt_oth ha hb (fun z => by rw [z] at hne; exact absurd (Nat.beq_refl _) (by rw [hne]; decide))
theorem hAt_n {h : xH} {a b : Nat} {e e1 : gE} (hb : b ≠ a) (h1 : hAt h b = some e1) : hAt (hSet h a e) b = some e1 := (hAt_ne hb).trans h1
theorem hSet_set {h : xH} {a : Nat} {e1 e2 : gE} : hSet (hSet h a e1) a e2 = hSet h a e2 := by
  simp only [hSet]
  congr 1
  funext q
  by_cases hq : q = a <;> simp [hq]
theorem hSet_self {h : xH} {a : Nat} {e : gE} (ha : hAt h a = some e) : hSet h a e = h := by
  obtain ⟨n, f⟩ := h
  simp only [hSet]
  congr 1
  funext q
  by_cases hq : q = a
  · simp only [hq, if_true]; exact ha.symm
  · simp [hq]
theorem hSet_comm {h : xH} {a b : Nat} {e1 e2 : gE} (hab : a ≠ b) : hSet (hSet h a e1) b e2 = hSet (hSet h b e2) a e1 := by
  simp only [hSet]
  congr 1
  funext q
  by_cases hq : q = b
  · have : ¬ q = a := fun z => hab (z.symm.trans hq)
    simp [hq, Ne.symm hab]
  · simp [hq]
/-- the machine's heap holds the pure one -/
def xHo (G : xG) (h : xH) (H : Heap) : Prop := H.size = h.1 ∧ ∀ (a : Nat) (e : gE), hAt h a = some e → xg_n G ≤ a ∧ va_at (xg_D G) vwCl (a, xTo G e) H
theorem xHo.lt {G : xG} {h : xH} {H : Heap} (hh : xHo G h H) {a : Nat} {e : gE} (ha : hAt h a = some e) : a < H.size := va_at.lt (hh.2 a e ha).2
theorem xHo.set {G : xG} {h : xH} {H H1 : Heap} {a : Nat} {e e0 : gE} (hh : xHo G h H) (ha : hAt h a = some e0) (z : H1.size = H.size) (he : va_at (xg_D G) vwCl (a, xTo G e) H1) (oq : ∀ q : Nat, q ≠ a → H1[q]? = H[q]?) : xHo G (hSet h a e) H1 := by
  refine ⟨z.trans hh.1, fun b eb hb => ?_⟩
  by_cases hq : b = a
  · subst hq
    rw [hAt_same] at hb
    cases hb
    exact ⟨(hh.2 b e0 ha).1, he⟩
  · rw [hAt_ne hq] at hb
    exact ⟨(hh.2 b eb hb).1, (hh.2 b eb hb).2.kept (oq b hq)⟩
theorem xHo.new {G : xG} {h : xH} {H H1 : Heap} {e : gE} (hh : xHo G h H) (hn : xg_n G ≤ H.size) (z : H1.size = H.size + 1) (he : va_at (xg_D G) vwCl (H.size, xTo G e) H1) (oq : ∀ q : Nat, q < H.size → H1[q]? = H[q]?) : xHo G (hNew h e) H1 := by
  refine ⟨by rw [z, hh.1]; rfl, fun b eb hb => ?_⟩
  have hs := hh.1
  by_cases hq : b = h.1
  · have : hAt (hNew h e) b = some e := by simp [hAt, hNew, hq]
    rw [this] at hb
    cases hb
    rw [hq, ← hs]
    exact ⟨hn, he⟩
  · have h2 : hAt (hNew h e) b = hAt h b := by simp [hAt, hNew, hq]
    rw [h2] at hb
    exact ⟨(hh.2 b eb hb).1, (hh.2 b eb hb).2.kept (oq b (hh.lt hb))⟩
/-- one cell of it, as the kit's world of one cell -/
theorem xHo.one {G : xG} {h : xH} {H : Heap} (hh : xHo G h H) {a : Nat} {e : gE} (ha : hAt h a = some e) : va_P (xg_D G) vwCl [(a, xTo G e)] H := by
  intro k q hk
  have hz : k < 1 := (List.getElem?_eq_some_iff.mp hk).1
  rw [show k = 0 by omega] at hk
  cases hk
  exact (hh.2 a e ha).2
/-- what holds of the tables, and of the cells that were there before the run -/
def xE (G : xG) (U : State) (H : Heap) : Prop :=
  va_K (xg_D G) vwCl (xT G) U ∧ va_AO RX0 U ∧ va_AO RX3 U ∧ (∀ w ∈ xNest, va_Nw w U) ∧ (∀ (i : Nat) (q : String × Nat × String), xStr[i]? = some q → vk_R q.1 q.2.1 q.2.2 (xg_sK G i) U) ∧ vk_S 18 xLen xByt (xg_sK G) (xg_sV G) (xA G) U H ∧ va_Z "java/lang/String" "COMPACT_STRINGS" "Z" (.int 1) (xA G) U H ∧ va_Zq "jdk/internal/util/Preconditions" "SIOOBE_FORMATTER" "Ljava/util/function/BiFunction;" (xA G) U H ∧ va_X (xg_b G) (xg_L G) (xg_x G) U H ∧ (xg_b G < H.size ∧ ¬ xA G (xg_b G)) ∧ xg_n G ≤ H.size
theorem xNest_warm {s U : State} (hW : s.WarmedH U.vm) (h : ∀ w ∈ xNest, va_Nw w s) : ∀ w ∈ xNest, va_Nw w U := by
  intro w hw
  have h1 := h w hw
  simp only [xNest, List.mem_cons, List.not_mem_nil, or_false] at hw
  rcases hw with rfl | rfl | rfl | rfl | rfl | rfl <;> exact va_Nw.warmM hW h1
theorem xE.warm {G : xG} {s U : State} {H : Heap} (hW : s.WarmedH U.vm) (h : xE G s H) : xE G U H := by
  obtain ⟨h1, h2, h3, h4, h5, h6, h7, h8, h9, h10, h11⟩ := h
  exact ⟨h1.moved hW.alike, h2.moved hW.alike, h3.moved hW.alike, xNest_warm hW h4, fun i q hq => (h5 i q hq).warm hW, h6.moved hW.alike, h7.moved hW.alike, h8.moved hW.alike, h9.moved hW.alike, h10, h11⟩
theorem xE.same {G : xG} {u U : State} {H : Heap} (hv : U.vm = u.vm) (h : xE G u H) : xE G U H := by
  obtain ⟨h1, h2, h3, h4, h5, h6, h7, h8, h9, h10, h11⟩ := h
  have ha : u.vm.Alike U.vm := by rw [hv]; exact Vm.Alike.refl u.vm
  exact ⟨h1.moved ha, h2.moved ha, h3.moved ha, fun w hw => va_Nw.same (by
    simp only [xNest, List.mem_cons, List.not_mem_nil, or_false] at hw
    rcases hw with rfl | rfl | rfl | rfl | rfl | rfl <;> rfl) hv.symm (h4 w hw), fun i q hq => (h5 i q hq).same hv, h6.moved ha, h7.moved ha, h8.moved ha, h9.moved ha, h10, h11⟩
theorem xE.kept {G : xG} {U : State} {H0 H : Heap} {locs : List Loc} (h : xE G U H0) (hS : va_S (xA G) H0 H locs) : xE G U H := by
  obtain ⟨h1, h2, h3, h4, h5, h6, h7, h8, h9, h10, h11⟩ := h
  exact ⟨h1, h2, h3, h4, h5, h6.kept hS.2.1, h7.kept hS.2.1, h8.kept hS.2.1, h9.kept (hS.2.1 _ h10.1 h10.2), ⟨Nat.lt_of_lt_of_le h10.1 hS.1, h10.2⟩, Nat.le_trans h11 hS.1⟩
/-- a method's context: its code, its class, the tables' words, what its end must be -/
def xC (G : xG) (own : String) (cc : ByteArray) (nL : Nat) (nm : String) (ret : Option FieldType) (p : Program) (s : State) (m : MethodId) (args : Array Value) (meth : Method) (c : Code) : Prop :=
  p.tables.exec = Jvm.exec ∧ c.code = cc ∧ c.maxLocals = nL ∧ s.vm.findClass own = some m.cls ∧ (∀ w ∈ xW, w.before args s = true) ∧ meth.sig.returnType = ret ∧ meth.locks = false ∧ meth.name = nm ∧ xE G s s.heap
abbrev xZ : Type := List Frame → Array Value → State → State → Prop
/-- the machine goes on well from here: at pc, locals L, stack st, heap h, kc cells of ks slots made so far -/
def Wp (G : xG) (own : String) (cc : ByteArray) (nL : Nat) (nm : String) (ret : Option FieldType) (R : Room) (Z : xZ) (kc ks pc : Nat) (L : List (Nat × Value)) (st : List Value) (h : xH) : Prop :=
  ∀ (p : Program) (e : Env) (s : State) (m : MethodId) (args : Array Value) (below : List Frame) (meth : Method) (c : Code) (H : Heap) (locs : List Loc) (ls : Array Slot),
    xC G own cc nL nm ret p s m args meth c → xHo G h H → va_S (xA G) s.heap H locs → lv_has ls nL L → W p G.1 e R s m args below meth c H locs kc ks (Z below args s) (F0 m pc ls st)
theorem Wp.eqh {G : xG} {own : String} {cc : ByteArray} {nL : Nat} {nm : String} {ret : Option FieldType} {R : Room} {Z : xZ} {kc ks pc : Nat} {L : List (Nat × Value)} {st : List Value} {h h' : xH} (e : h = h') (kk : Wp G own cc nL nm ret R Z kc ks pc L st h') : Wp G own cc nL nm ret R Z kc ks pc L st h := e ▸ kk
theorem Wp.eqz {G : xG} {own : String} {cc : ByteArray} {nL : Nat} {nm : String} {ret : Option FieldType} {R : Room} {Z Z' : xZ} {kc ks pc : Nat} {L : List (Nat × Value)} {st : List Value} {h : xH} (e : Z = Z') (kk : Wp G own cc nL nm ret R Z' kc ks pc L st h) : Wp G own cc nL nm ret R Z kc ks pc L st h := e ▸ kk
theorem Wp.eqs {G : xG} {own : String} {cc : ByteArray} {nL : Nat} {nm : String} {ret : Option FieldType} {R : Room} {Z : xZ} {kc ks pc : Nat} {L L' : List (Nat × Value)} {st st' : List Value} {h : xH} (e : L = L') (e2 : st = st') (kk : Wp G own cc nL nm ret R Z kc ks pc L' st' h) : Wp G own cc nL nm ret R Z kc ks pc L st h := e ▸ e2 ▸ kk
abbrev xR (d bc bs : Nat) : Room := { frames := d, cells := bc, slots := bs, locals := 39 * d }
/-- a whole method's end -/
def xQ (G : xG) (Q : Option Value → xH → Prop) : Array Value → State → Outcome → State → Prop := fun _ st o t => (∃ (v : Option Value) (h' : xH), o = .returned v ∧ Q v h' ∧ xHo G h' t.heap) ∧ va_F (xA G) st t
def xZm (G : xG) (bc bs : Nat) (Q : Option Value → xH → Prop) : xZ := fun below args s => MQ below (xQ G Q) args s bc bs (xA G)
/-- a method's contract: at most d frames above it, at most bc cells of bs slots; from the arguments av and the heap h it returns, with Q -/
def Ct (G : xG) (d bc bs : Nat) (y : MethodName) (cc : ByteArray) (nL : Nat) (ret : Option FieldType) (av : List Value) (h : xH) (Q : Option Value → xH → Prop) : Prop :=
  Met G.1 y (Cond.code y cc nL ret :: xW) (xR d bc bs) (va_Pc av (fun U => xE G U U.heap ∧ xHo G h U.heap)) (xQ G Q) bc bs (xA G)
theorem Ct.of {G : xG} {d bc bs : Nat} {y : MethodName} {cc : ByteArray} {nL : Nat} {ret : Option FieldType} {av : List Value} {h : xH} {Q : Option Value → xH → Prop} (hy : plainName y.cls = true) (hav : Nat.ble (lg_sl av).length nL = true)
    (k : Wp G y.cls cc nL y.name ret (xR d bc bs) (xZm G bc bs Q) 0 0 0 (lv_args 0 av) [] h) : Ct G d bc bs y cc nL ret av h Q := by
  refine Met.ofW (cc := cc) (maxL := nL) (ret := ret) hy rfl ?_
  intro p e s m args below meth c s₁ B hml hv
  obtain ⟨rfl, hE, hH⟩ := hv
  have hts := atoms_spec (ws := Cond.code y cc nL ret :: xW) B.pre
  have hl := lv_entry av (n := nL) (Nat.le_of_ble_eq_true hav)
  rw [lg_entry_eq]
  exact k p e s m av.toArray below meth c s.heap [] _ ⟨B.exec, B.bytes, hml, findClass_of_methodNamed B.named, fun w hw => hts w (List.mem_cons_of_mem _ hw), B.returns, B.notSynchronized, (name_of_methodNamed B.named B.method).1, hE⟩ hH va_S.rf hl
/-- less is asked of the end -/
theorem Ct.mono {G : xG} {d bc bs : Nat} {y : MethodName} {cc : ByteArray} {nL : Nat} {ret : Option FieldType} {av : List Value} {h : xH} {Q Q' : Option Value → xH → Prop} (hq : ∀ v h', Q v h' → Q' v h') (k : Ct G d bc bs y cc nL ret av h Q) : Ct G d bc bs y cc nL ret av h Q' := by
  intro p e ha hc hk s m args below hf happ hpre hK
  obtain ⟨n, o, h1, h2, h3, ⟨⟨⟨v, h', e1, e2, e3⟩, hF⟩, hL⟩⟩ := k p e ha hc hk s m args below hf happ hpre hK
  exact ⟨n, o, h1, h2, h3, ⟨⟨⟨v, h', e1, hq v h' e2, e3⟩, hF⟩, hL⟩⟩

section XR
variable {G : xG} {own : String} {cc : ByteArray} {nL : Nat} {nm : String} {ret : Option FieldType} {R : Room} {Z : xZ} {kc ks pc : Nat} {L : List (Nat × Value)} {st : List Value} {h : xH}
/-- the value of a local -/
def xlk : List (Nat × Value) → Nat → Option Value
  | [], _ => none
  | q :: l, k => match Nat.beq q.1 k with
    | true => some q.2
    | false => xlk l k
theorem xlk_in : ∀ {L : List (Nat × Value)} {k : Nat} {v : Value}, xlk L k = some v → (k, v) ∈ L
  | [], k, v, hk => by simp [xlk] at hk
  | q :: l, k, v, hk => by
    unfold xlk at hk
    cases hb : Nat.beq q.1 k with
    | true =>
      rw [hb] at hk
      have e : q.1 = k := Nat.eq_of_beq_eq_true hb
      have e2 : q.2 = v := Option.some.inj hk
      rw [← e, ← e2]
      exact List.mem_cons_self
    | false =>
      rw [hb] at hk
      exact List.mem_cons_of_mem _ (xlk_in hk)
/-- locals behind a store of one slot, of two -/
abbrev xs1 (L : List (Nat × Value)) (i : Nat) (v : Value) : List (Nat × Value) := (i, v) :: L.filter (fun q => !(q.1 == i) && !(q.1 + 1 == i && q.2.category == 2))
abbrev xs2 (L : List (Nat × Value)) (i : Nat) (v : Value) : List (Nat × Value) := (i, v) :: L.filter (fun q => !(q.1 == i) && (!(q.1 == i + 1) && !(q.1 + 1 == i && q.2.category == 2)))
theorem lv_in {ls : Array Slot} {n : Nat} {L : List (Nat × Value)} (hl : lv_has ls n L) {k : Nat} {v : Value} (hk : xlk L k = some v) : ls[k]? = some (.val v) := hl.2.2 _ (xlk_in hk)
theorem x_iconst {n : Int} {v : Int32} (hd : decode cc pc = .ok (.iconst n, 1)) (hv : Int32.ofInt n = v) (kk : Wp G own cc nL nm ret R Z kc ks (pc + 1) L (.int v :: st) h) : Wp G own cc nL nm ret R Z kc ks pc L (st) h := by
  intro p e s m args below meth c H locs ls C hH hS hl
  exact lv_iconst C.1 C.2.1 hd hv (kk p e s m args below meth c H locs ls C hH hS hl)
theorem x_bipush {n : Int} {v : Int32} (hd : decode cc pc = .ok (.bipush n, 2)) (hv : (Int8.ofInt n).toInt32 = v) (kk : Wp G own cc nL nm ret R Z kc ks (pc + 2) L (.int v :: st) h) : Wp G own cc nL nm ret R Z kc ks pc L (st) h := by
  intro p e s m args below meth c H locs ls C hH hS hl
  exact lv_bipush C.1 C.2.1 hd hv (kk p e s m args below meth c H locs ls C hH hS hl)
theorem x_sipush {n : Int} {v : Int32} (hd : decode cc pc = .ok (.sipush n, 3)) (hv : (Int16.ofInt n).toInt32 = v) (kk : Wp G own cc nL nm ret R Z kc ks (pc + 3) L (.int v :: st) h) : Wp G own cc nL nm ret R Z kc ks pc L (st) h := by
  intro p e s m args below meth c H locs ls C hH hS hl
  exact lv_sipush C.1 C.2.1 hd hv (kk p e s m args below meth c H locs ls C hH hS hl)
theorem x_lconst {n : Fin 2} {v : Int64} (hd : decode cc pc = .ok (.lconst n, 1)) (hv : Int64.ofNat (n : Nat) = v) (kk : Wp G own cc nL nm ret R Z kc ks (pc + 1) L (.long v :: st) h) : Wp G own cc nL nm ret R Z kc ks pc L (st) h := by
  intro p e s m args below meth c H locs ls C hH hS hl
  exact lv_lconst C.1 C.2.1 hd hv (kk p e s m args below meth c H locs ls C hH hS hl)
theorem x_ldc {idx : Nat} {v : Int32} (hd : decode cc pc = .ok (.ldc idx, 2)) (hv : Cond.constant own idx v ∈ xW) (kk : Wp G own cc nL nm ret R Z kc ks (pc + 2) L (.int v :: st) h) : Wp G own cc nL nm ret R Z kc ks pc L (st) h := by
  intro p e s m args below meth c H locs ls C hH hS hl
  exact lv_ldc C.1 C.2.1 C.2.2.2.1 (C.2.2.2.2.1 _ hv) hd (kk p e s m args below meth c H locs ls C hH hS hl)
theorem x_ldc2 {idx : Nat} {v : Int64} (hd : decode cc pc = .ok (.ldc2_w idx, 3)) (hv : Cond.constantLong own idx v ∈ xW) (kk : Wp G own cc nL nm ret R Z kc ks (pc + 3) L (.long v :: st) h) : Wp G own cc nL nm ret R Z kc ks pc L (st) h := by
  intro p e s m args below meth c H locs ls C hH hS hl
  exact lv_ldc2 C.1 C.2.1 C.2.2.2.1 (C.2.2.2.2.1 _ hv) hd (kk p e s m args below meth c H locs ls C hH hS hl)
theorem x_ldcS {idx i : Nat} {tx : String} (hd : decode cc pc = .ok (.ldc idx, 2)) (hv : xStr[i]? = some (own, idx, tx)) (kk : Wp G own cc nL nm ret R Z kc ks (pc + 2) L (.ref (xg_sK G i) :: st) h) : Wp G own cc nL nm ret R Z kc ks pc L (st) h := by
  intro p e s m args below meth c H locs ls C hH hS hl
  exact va_ldcS C.1 C.2.1 C.2.2.2.1 (C.2.2.2.2.2.2.2.2.2.2.2.2.1 i (own, idx, tx) hv) hd (kk p e s m args below meth c H locs ls C hH hS hl)
theorem x_iload_n {k : Fin 4} {x : Int32} (hd : decode cc pc = .ok (.iload_n k, 1)) (hv : xlk L (k : Nat) = some (.int x)) (kk : Wp G own cc nL nm ret R Z kc ks (pc + 1) L (.int x :: st) h) : Wp G own cc nL nm ret R Z kc ks pc L (st) h := by
  intro p e s m args below meth c H locs ls C hH hS hl
  exact lv_iload_n C.1 C.2.1 hd rfl (lv_in hl hv) (kk p e s m args below meth c H locs ls C hH hS hl)
theorem x_iload {k : Nat} {x : Int32} (hd : decode cc pc = .ok (.iload k, 2)) (hv : xlk L k = some (.int x)) (kk : Wp G own cc nL nm ret R Z kc ks (pc + 2) L (.int x :: st) h) : Wp G own cc nL nm ret R Z kc ks pc L (st) h := by
  intro p e s m args below meth c H locs ls C hH hS hl
  exact lv_iload C.1 C.2.1 hd (lv_in hl hv) (kk p e s m args below meth c H locs ls C hH hS hl)
theorem x_lload_n {k : Fin 4} {x : Int64} (hd : decode cc pc = .ok (.lload_n k, 1)) (hv : xlk L (k : Nat) = some (.long x)) (kk : Wp G own cc nL nm ret R Z kc ks (pc + 1) L (.long x :: st) h) : Wp G own cc nL nm ret R Z kc ks pc L (st) h := by
  intro p e s m args below meth c H locs ls C hH hS hl
  exact lv_lload_n C.1 C.2.1 hd rfl (lv_in hl hv) (kk p e s m args below meth c H locs ls C hH hS hl)
theorem x_lload {k : Nat} {x : Int64} (hd : decode cc pc = .ok (.lload k, 2)) (hv : xlk L k = some (.long x)) (kk : Wp G own cc nL nm ret R Z kc ks (pc + 2) L (.long x :: st) h) : Wp G own cc nL nm ret R Z kc ks pc L (st) h := by
  intro p e s m args below meth c H locs ls C hH hS hl
  exact lv_lload C.1 C.2.1 hd (lv_in hl hv) (kk p e s m args below meth c H locs ls C hH hS hl)
theorem x_aload_n {k : Fin 4} {x : Nat} (hd : decode cc pc = .ok (.aload_n k, 1)) (hv : xlk L (k : Nat) = some (.ref x)) (kk : Wp G own cc nL nm ret R Z kc ks (pc + 1) L (.ref x :: st) h) : Wp G own cc nL nm ret R Z kc ks pc L (st) h := by
  intro p e s m args below meth c H locs ls C hH hS hl
  exact lv_aload_n C.1 C.2.1 hd rfl (lv_in hl hv) (kk p e s m args below meth c H locs ls C hH hS hl)
theorem x_aload {k : Nat} {x : Nat} (hd : decode cc pc = .ok (.aload k, 2)) (hv : xlk L k = some (.ref x)) (kk : Wp G own cc nL nm ret R Z kc ks (pc + 2) L (.ref x :: st) h) : Wp G own cc nL nm ret R Z kc ks pc L (st) h := by
  intro p e s m args below meth c H locs ls C hH hS hl
  exact lv_aload C.1 C.2.1 hd (lv_in hl hv) (kk p e s m args below meth c H locs ls C hH hS hl)
theorem x_istore_n {k : Fin 4} {x : Int32} {L' : List (Nat × Value)} (hd : decode cc pc = .ok (.istore_n k, 1)) (hn : Nat.ble ((k : Nat) + 1) nL = true) (hv : xs1 L (k : Nat) (.int x) = L') (kk : Wp G own cc nL nm ret R Z kc ks (pc + 1) L' (st) h) : Wp G own cc nL nm ret R Z kc ks pc L (.int x :: st) h := by
  intro p e s m args below meth c H locs ls C hH hS hl
  exact lv_istore_n (lv' := L') C.1 C.2.1 hd rfl hl (Nat.le_of_ble_eq_true hn) hv (fun ls hl => (kk p e s m args below meth c H locs ls C hH hS hl))
theorem x_istore {k : Nat} {x : Int32} {L' : List (Nat × Value)} (hd : decode cc pc = .ok (.istore k, 2)) (hn : Nat.ble (k + 1) nL = true) (hv : xs1 L k (.int x) = L') (kk : Wp G own cc nL nm ret R Z kc ks (pc + 2) L' (st) h) : Wp G own cc nL nm ret R Z kc ks pc L (.int x :: st) h := by
  intro p e s m args below meth c H locs ls C hH hS hl
  exact lv_istore (lv' := L') C.1 C.2.1 hd hl (Nat.le_of_ble_eq_true hn) hv (fun ls hl => (kk p e s m args below meth c H locs ls C hH hS hl))
theorem x_lstore_n {k : Fin 4} {x : Int64} {L' : List (Nat × Value)} (hd : decode cc pc = .ok (.lstore_n k, 1)) (hn : Nat.ble ((k : Nat) + 1 + 1) nL = true) (hv : xs2 L (k : Nat) (.long x) = L') (kk : Wp G own cc nL nm ret R Z kc ks (pc + 1) L' (st) h) : Wp G own cc nL nm ret R Z kc ks pc L (.long x :: st) h := by
  intro p e s m args below meth c H locs ls C hH hS hl
  exact lv_lstore_n (lv' := L') C.1 C.2.1 hd rfl hl (Nat.le_of_ble_eq_true hn) hv (fun ls hl => (kk p e s m args below meth c H locs ls C hH hS hl))
theorem x_lstore {k : Nat} {x : Int64} {L' : List (Nat × Value)} (hd : decode cc pc = .ok (.lstore k, 2)) (hn : Nat.ble (k + 1 + 1) nL = true) (hv : xs2 L k (.long x) = L') (kk : Wp G own cc nL nm ret R Z kc ks (pc + 2) L' (st) h) : Wp G own cc nL nm ret R Z kc ks pc L (.long x :: st) h := by
  intro p e s m args below meth c H locs ls C hH hS hl
  exact lv_lstore (lv' := L') C.1 C.2.1 hd hl (Nat.le_of_ble_eq_true hn) hv (fun ls hl => (kk p e s m args below meth c H locs ls C hH hS hl))
theorem x_astore_n {k : Fin 4} {x : Nat} {L' : List (Nat × Value)} (hd : decode cc pc = .ok (.astore_n k, 1)) (hn : Nat.ble ((k : Nat) + 1) nL = true) (hv : xs1 L (k : Nat) (.ref x) = L') (kk : Wp G own cc nL nm ret R Z kc ks (pc + 1) L' (st) h) : Wp G own cc nL nm ret R Z kc ks pc L (.ref x :: st) h := by
  intro p e s m args below meth c H locs ls C hH hS hl
  exact lv_astore_n (lv' := L') C.1 C.2.1 hd rfl hl (Nat.le_of_ble_eq_true hn) hv (fun ls hl => (kk p e s m args below meth c H locs ls C hH hS hl))
theorem x_astore {k : Nat} {x : Nat} {L' : List (Nat × Value)} (hd : decode cc pc = .ok (.astore k, 2)) (hn : Nat.ble (k + 1) nL = true) (hv : xs1 L k (.ref x) = L') (kk : Wp G own cc nL nm ret R Z kc ks (pc + 2) L' (st) h) : Wp G own cc nL nm ret R Z kc ks pc L (.ref x :: st) h := by
  intro p e s m args below meth c H locs ls C hH hS hl
  exact lv_astore (lv' := L') C.1 C.2.1 hd hl (Nat.le_of_ble_eq_true hn) hv (fun ls hl => (kk p e s m args below meth c H locs ls C hH hS hl))
theorem lv_has_get {ls : Array Slot} {n : Nat} {L : List (Nat × Value)} (hl : lv_has ls n L) {k : Nat} {v : Value} (hk : xlk L k = some v) : ∃ j : Nat, L[j]? = some (k, v) := List.getElem?_of_mem (xlk_in hk)
theorem x_iinc {k : Nat} {n : Int} {x v : Int32} {L' : List (Nat × Value)} (hd : decode cc pc = .ok (.iinc k n, 3)) (hx : xlk L k = some (.int x)) (hi : x + Int32.ofInt n = v) (hn : Nat.ble (k + 1) nL = true) (hv : xs1 L k (.int v) = L') (kk : Wp G own cc nL nm ret R Z kc ks (pc + 3) L' st h) : Wp G own cc nL nm ret R Z kc ks pc L st h := by
  intro p e s m args below meth c H locs ls C hH hS hl
  obtain ⟨j, hj⟩ := lv_has_get hl hx
  exact lv_iinc (v := v) (lv' := L') C.1 C.2.1 hd hl (k := j) hj hi (Nat.le_of_ble_eq_true hn) hv (fun ls hl => (kk p e s m args below meth c H locs ls C hH hS hl))
theorem x_iadd {x y : Int32} (hd : decode cc pc = .ok (.iadd, 1)) (kk : Wp G own cc nL nm ret R Z kc ks (pc + 1) L (.int (x + y) :: st) h) : Wp G own cc nL nm ret R Z kc ks pc L (.int y :: .int x :: st) h := by
  intro p e s m args below meth c H locs ls C hH hS hl
  exact lv_iadd C.1 C.2.1 hd (kk p e s m args below meth c H locs ls C hH hS hl)
theorem x_isub {x y : Int32} (hd : decode cc pc = .ok (.isub, 1)) (kk : Wp G own cc nL nm ret R Z kc ks (pc + 1) L (.int (x - y) :: st) h) : Wp G own cc nL nm ret R Z kc ks pc L (.int y :: .int x :: st) h := by
  intro p e s m args below meth c H locs ls C hH hS hl
  exact lv_isub C.1 C.2.1 hd (kk p e s m args below meth c H locs ls C hH hS hl)
theorem x_imul {x y : Int32} (hd : decode cc pc = .ok (.imul, 1)) (kk : Wp G own cc nL nm ret R Z kc ks (pc + 1) L (.int (x * y) :: st) h) : Wp G own cc nL nm ret R Z kc ks pc L (.int y :: .int x :: st) h := by
  intro p e s m args below meth c H locs ls C hH hS hl
  exact lv_imul C.1 C.2.1 hd (kk p e s m args below meth c H locs ls C hH hS hl)
theorem x_iand {x y : Int32} (hd : decode cc pc = .ok (.iand, 1)) (kk : Wp G own cc nL nm ret R Z kc ks (pc + 1) L (.int (x &&& y) :: st) h) : Wp G own cc nL nm ret R Z kc ks pc L (.int y :: .int x :: st) h := by
  intro p e s m args below meth c H locs ls C hH hS hl
  exact lv_iand C.1 C.2.1 hd (kk p e s m args below meth c H locs ls C hH hS hl)
theorem x_idiv {x y : Int32} (hd : decode cc pc = .ok (.idiv, 1)) (hne : ¬ y = 0) (kk : Wp G own cc nL nm ret R Z kc ks (pc + 1) L (.int (x / y) :: st) h) : Wp G own cc nL nm ret R Z kc ks pc L (.int y :: .int x :: st) h := by
  intro p e s m args below meth c H locs ls C hH hS hl
  exact lv_idiv C.1 C.2.1 hd hne (kk p e s m args below meth c H locs ls C hH hS hl)
theorem x_irem {x y : Int32} (hd : decode cc pc = .ok (.irem, 1)) (hne : ¬ y = 0) (kk : Wp G own cc nL nm ret R Z kc ks (pc + 1) L (.int (x - x / y * y) :: st) h) : Wp G own cc nL nm ret R Z kc ks pc L (.int y :: .int x :: st) h := by
  intro p e s m args below meth c H locs ls C hH hS hl
  exact lv_irem C.1 C.2.1 hd hne (kk p e s m args below meth c H locs ls C hH hS hl)
theorem x_ladd {x y : Int64} (hd : decode cc pc = .ok (.ladd, 1)) (kk : Wp G own cc nL nm ret R Z kc ks (pc + 1) L (.long (x + y) :: st) h) : Wp G own cc nL nm ret R Z kc ks pc L (.long y :: .long x :: st) h := by
  intro p e s m args below meth c H locs ls C hH hS hl
  exact lv_ladd C.1 C.2.1 hd (kk p e s m args below meth c H locs ls C hH hS hl)
theorem x_lsub {x y : Int64} (hd : decode cc pc = .ok (.lsub, 1)) (kk : Wp G own cc nL nm ret R Z kc ks (pc + 1) L (.long (x - y) :: st) h) : Wp G own cc nL nm ret R Z kc ks pc L (.long y :: .long x :: st) h := by
  intro p e s m args below meth c H locs ls C hH hS hl
  exact lv_lsub C.1 C.2.1 hd (kk p e s m args below meth c H locs ls C hH hS hl)
theorem x_lmul {x y : Int64} (hd : decode cc pc = .ok (.lmul, 1)) (kk : Wp G own cc nL nm ret R Z kc ks (pc + 1) L (.long (x * y) :: st) h) : Wp G own cc nL nm ret R Z kc ks pc L (.long y :: .long x :: st) h := by
  intro p e s m args below meth c H locs ls C hH hS hl
  exact lv_lmul C.1 C.2.1 hd (kk p e s m args below meth c H locs ls C hH hS hl)
theorem x_lrem {x y : Int64} (hd : decode cc pc = .ok (.lrem, 1)) (hne : ¬ y = 0) (kk : Wp G own cc nL nm ret R Z kc ks (pc + 1) L (.long (x - x / y * y) :: st) h) : Wp G own cc nL nm ret R Z kc ks pc L (.long y :: .long x :: st) h := by
  intro p e s m args below meth c H locs ls C hH hS hl
  exact lv_lrem C.1 C.2.1 hd hne (kk p e s m args below meth c H locs ls C hH hS hl)
theorem x_lcmp {x y : Int64} (hd : decode cc pc = .ok (.lcmp, 1)) (kk : Wp G own cc nL nm ret R Z kc ks (pc + 1) L (.int (lg_cmp x y) :: st) h) : Wp G own cc nL nm ret R Z kc ks pc L (.long y :: .long x :: st) h := by
  intro p e s m args below meth c H locs ls C hH hS hl
  exact W.lcmp C.1 C.2.1 hd (kk p e s m args below meth c H locs ls C hH hS hl)
theorem x_i2l {x : Int32} (hd : decode cc pc = .ok (.i2l, 1)) (kk : Wp G own cc nL nm ret R Z kc ks (pc + 1) L (.long x.toInt64 :: st) h) : Wp G own cc nL nm ret R Z kc ks pc L (.int x :: st) h := by
  intro p e s m args below meth c H locs ls C hH hS hl
  exact lv_i2l C.1 C.2.1 hd rfl (kk p e s m args below meth c H locs ls C hH hS hl)
theorem x_l2i {x : Int64} (hd : decode cc pc = .ok (.l2i, 1)) (kk : Wp G own cc nL nm ret R Z kc ks (pc + 1) L (.int x.toInt32 :: st) h) : Wp G own cc nL nm ret R Z kc ks pc L (.long x :: st) h := by
  intro p e s m args below meth c H locs ls C hH hS hl
  exact lv_l2i C.1 C.2.1 hd rfl (kk p e s m args below meth c H locs ls C hH hS hl)
theorem x_i2c {x : Int32} (hd : decode cc pc = .ok (.i2c, 1)) (kk : Wp G own cc nL nm ret R Z kc ks (pc + 1) L (.int (x.toUInt32 % 65536).toInt32 :: st) h) : Wp G own cc nL nm ret R Z kc ks pc L (.int x :: st) h := by
  intro p e s m args below meth c H locs ls C hH hS hl
  exact lv_i2c C.1 C.2.1 hd rfl (kk p e s m args below meth c H locs ls C hH hS hl)
theorem x_ishr {x y : Int32} (hd : decode cc pc = .ok (.ishr, 1)) (kk : Wp G own cc nL nm ret R Z kc ks (pc + 1) L (.int (x >>> (y &&& 31)) :: st) h) : Wp G own cc nL nm ret R Z kc ks pc L (.int y :: .int x :: st) h := by
  intro p e s m args below meth c H locs ls C hH hS hl
  exact lv_ishr C.1 C.2.1 hd (kk p e s m args below meth c H locs ls C hH hS hl)
theorem x_dup {v : Value} (hd : decode cc pc = .ok (.dup, 1)) (hc : v.category = 1) (kk : Wp G own cc nL nm ret R Z kc ks (pc + 1) L (v :: v :: st) h) : Wp G own cc nL nm ret R Z kc ks pc L (v :: st) h := by
  intro p e s m args below meth c H locs ls C hH hS hl
  exact lv_dup C.1 C.2.1 hd hc (kk p e s m args below meth c H locs ls C hH hS hl)
theorem x_dup2 {v w : Value} (hd : decode cc pc = .ok (.dup2, 1)) (hc : v.category = 1) (hc2 : w.category = 1) (kk : Wp G own cc nL nm ret R Z kc ks (pc + 1) L (v :: w :: v :: w :: st) h) : Wp G own cc nL nm ret R Z kc ks pc L (v :: w :: st) h := by
  intro p e s m args below meth c H locs ls C hH hS hl
  exact lv_dup2_11 C.1 C.2.1 hd hc hc2 (kk p e s m args below meth c H locs ls C hH hS hl)
theorem x_pop {v : Value} (hd : decode cc pc = .ok (.pop, 1)) (hc : v.category = 1) (kk : Wp G own cc nL nm ret R Z kc ks (pc + 1) L (st) h) : Wp G own cc nL nm ret R Z kc ks pc L (v :: st) h := by
  intro p e s m args below meth c H locs ls C hH hS hl
  exact lv_pop C.1 C.2.1 hd hc (kk p e s m args below meth c H locs ls C hH hS hl)
theorem x_goto {off : Int} {tgt : Nat} (hd : decode cc pc = .ok (.goto off, 3)) (ht : (pc : Int) + off = (tgt : Int)) (kk : Wp G own cc nL nm ret R Z kc ks tgt L (st) h) : Wp G own cc nL nm ret R Z kc ks pc L (st) h := by
  intro p e s m args below meth c H locs ls C hH hS hl
  exact lv_goto C.1 C.2.1 hd ht (kk p e s m args below meth c H locs ls C hH hS hl)
theorem x_icmp_eq {x y : Int32} {off : Int} {tgt : Nat} (hd : decode cc pc = .ok (.if_icmp .eq off, 3)) (ht : (pc : Int) + off = (tgt : Int)) (kt : x = y → Wp G own cc nL nm ret R Z kc ks tgt L st h) (kf : ¬ x = y → Wp G own cc nL nm ret R Z kc ks (pc + 3) L st h) : Wp G own cc nL nm ret R Z kc ks pc L (.int y :: .int x :: st) h := by
  intro p e s m args below meth c H locs ls C hH hS hl
  exact lv_icmp_eq C.1 C.2.1 hd ht (fun q => kt q p e s m args below meth c H locs ls C hH hS hl) (fun q => kf q p e s m args below meth c H locs ls C hH hS hl)
theorem x_if_eq {x : Int32} {off : Int} {tgt : Nat} (hd : decode cc pc = .ok (.ifCond .eq off, 3)) (ht : (pc : Int) + off = (tgt : Int)) (kt : x = 0 → Wp G own cc nL nm ret R Z kc ks tgt L st h) (kf : ¬ x = 0 → Wp G own cc nL nm ret R Z kc ks (pc + 3) L st h) : Wp G own cc nL nm ret R Z kc ks pc L (.int x :: st) h := by
  intro p e s m args below meth c H locs ls C hH hS hl
  exact lv_if_eq C.1 C.2.1 hd ht (fun q => kt q p e s m args below meth c H locs ls C hH hS hl) (fun q => kf q p e s m args below meth c H locs ls C hH hS hl)
theorem x_icmp_ne {x y : Int32} {off : Int} {tgt : Nat} (hd : decode cc pc = .ok (.if_icmp .ne off, 3)) (ht : (pc : Int) + off = (tgt : Int)) (kt : ¬ x = y → Wp G own cc nL nm ret R Z kc ks tgt L st h) (kf : x = y → Wp G own cc nL nm ret R Z kc ks (pc + 3) L st h) : Wp G own cc nL nm ret R Z kc ks pc L (.int y :: .int x :: st) h := by
  intro p e s m args below meth c H locs ls C hH hS hl
  exact lv_icmp_ne C.1 C.2.1 hd ht (fun q => kt q p e s m args below meth c H locs ls C hH hS hl) (fun q => kf q p e s m args below meth c H locs ls C hH hS hl)
theorem x_if_ne {x : Int32} {off : Int} {tgt : Nat} (hd : decode cc pc = .ok (.ifCond .ne off, 3)) (ht : (pc : Int) + off = (tgt : Int)) (kt : ¬ x = 0 → Wp G own cc nL nm ret R Z kc ks tgt L st h) (kf : x = 0 → Wp G own cc nL nm ret R Z kc ks (pc + 3) L st h) : Wp G own cc nL nm ret R Z kc ks pc L (.int x :: st) h := by
  intro p e s m args below meth c H locs ls C hH hS hl
  exact lv_if_ne C.1 C.2.1 hd ht (fun q => kt q p e s m args below meth c H locs ls C hH hS hl) (fun q => kf q p e s m args below meth c H locs ls C hH hS hl)
theorem x_icmp_lt {x y : Int32} {off : Int} {tgt : Nat} (hd : decode cc pc = .ok (.if_icmp .lt off, 3)) (ht : (pc : Int) + off = (tgt : Int)) (kt : x < y → Wp G own cc nL nm ret R Z kc ks tgt L st h) (kf : ¬ x < y → Wp G own cc nL nm ret R Z kc ks (pc + 3) L st h) : Wp G own cc nL nm ret R Z kc ks pc L (.int y :: .int x :: st) h := by
  intro p e s m args below meth c H locs ls C hH hS hl
  exact lv_icmp_lt C.1 C.2.1 hd ht (fun q => kt q p e s m args below meth c H locs ls C hH hS hl) (fun q => kf q p e s m args below meth c H locs ls C hH hS hl)
theorem x_if_lt {x : Int32} {off : Int} {tgt : Nat} (hd : decode cc pc = .ok (.ifCond .lt off, 3)) (ht : (pc : Int) + off = (tgt : Int)) (kt : x < 0 → Wp G own cc nL nm ret R Z kc ks tgt L st h) (kf : ¬ x < 0 → Wp G own cc nL nm ret R Z kc ks (pc + 3) L st h) : Wp G own cc nL nm ret R Z kc ks pc L (.int x :: st) h := by
  intro p e s m args below meth c H locs ls C hH hS hl
  exact lv_if_lt C.1 C.2.1 hd ht (fun q => kt q p e s m args below meth c H locs ls C hH hS hl) (fun q => kf q p e s m args below meth c H locs ls C hH hS hl)
theorem x_icmp_ge {x y : Int32} {off : Int} {tgt : Nat} (hd : decode cc pc = .ok (.if_icmp .ge off, 3)) (ht : (pc : Int) + off = (tgt : Int)) (kt : y ≤ x → Wp G own cc nL nm ret R Z kc ks tgt L st h) (kf : ¬ y ≤ x → Wp G own cc nL nm ret R Z kc ks (pc + 3) L st h) : Wp G own cc nL nm ret R Z kc ks pc L (.int y :: .int x :: st) h := by
  intro p e s m args below meth c H locs ls C hH hS hl
  exact lv_icmp_ge C.1 C.2.1 hd ht (fun q => kt q p e s m args below meth c H locs ls C hH hS hl) (fun q => kf q p e s m args below meth c H locs ls C hH hS hl)
theorem x_if_ge {x : Int32} {off : Int} {tgt : Nat} (hd : decode cc pc = .ok (.ifCond .ge off, 3)) (ht : (pc : Int) + off = (tgt : Int)) (kt : 0 ≤ x → Wp G own cc nL nm ret R Z kc ks tgt L st h) (kf : ¬ 0 ≤ x → Wp G own cc nL nm ret R Z kc ks (pc + 3) L st h) : Wp G own cc nL nm ret R Z kc ks pc L (.int x :: st) h := by
  intro p e s m args below meth c H locs ls C hH hS hl
  exact lv_if_ge C.1 C.2.1 hd ht (fun q => kt q p e s m args below meth c H locs ls C hH hS hl) (fun q => kf q p e s m args below meth c H locs ls C hH hS hl)
theorem x_icmp_gt {x y : Int32} {off : Int} {tgt : Nat} (hd : decode cc pc = .ok (.if_icmp .gt off, 3)) (ht : (pc : Int) + off = (tgt : Int)) (kt : y < x → Wp G own cc nL nm ret R Z kc ks tgt L st h) (kf : ¬ y < x → Wp G own cc nL nm ret R Z kc ks (pc + 3) L st h) : Wp G own cc nL nm ret R Z kc ks pc L (.int y :: .int x :: st) h := by
  intro p e s m args below meth c H locs ls C hH hS hl
  exact lv_icmp_gt C.1 C.2.1 hd ht (fun q => kt q p e s m args below meth c H locs ls C hH hS hl) (fun q => kf q p e s m args below meth c H locs ls C hH hS hl)
theorem x_if_gt {x : Int32} {off : Int} {tgt : Nat} (hd : decode cc pc = .ok (.ifCond .gt off, 3)) (ht : (pc : Int) + off = (tgt : Int)) (kt : 0 < x → Wp G own cc nL nm ret R Z kc ks tgt L st h) (kf : ¬ 0 < x → Wp G own cc nL nm ret R Z kc ks (pc + 3) L st h) : Wp G own cc nL nm ret R Z kc ks pc L (.int x :: st) h := by
  intro p e s m args below meth c H locs ls C hH hS hl
  exact lv_if_gt C.1 C.2.1 hd ht (fun q => kt q p e s m args below meth c H locs ls C hH hS hl) (fun q => kf q p e s m args below meth c H locs ls C hH hS hl)
theorem x_icmp_le {x y : Int32} {off : Int} {tgt : Nat} (hd : decode cc pc = .ok (.if_icmp .le off, 3)) (ht : (pc : Int) + off = (tgt : Int)) (kt : x ≤ y → Wp G own cc nL nm ret R Z kc ks tgt L st h) (kf : ¬ x ≤ y → Wp G own cc nL nm ret R Z kc ks (pc + 3) L st h) : Wp G own cc nL nm ret R Z kc ks pc L (.int y :: .int x :: st) h := by
  intro p e s m args below meth c H locs ls C hH hS hl
  exact lv_icmp_le C.1 C.2.1 hd ht (fun q => kt q p e s m args below meth c H locs ls C hH hS hl) (fun q => kf q p e s m args below meth c H locs ls C hH hS hl)
theorem x_if_le {x : Int32} {off : Int} {tgt : Nat} (hd : decode cc pc = .ok (.ifCond .le off, 3)) (ht : (pc : Int) + off = (tgt : Int)) (kt : x ≤ 0 → Wp G own cc nL nm ret R Z kc ks tgt L st h) (kf : ¬ x ≤ 0 → Wp G own cc nL nm ret R Z kc ks (pc + 3) L st h) : Wp G own cc nL nm ret R Z kc ks pc L (.int x :: st) h := by
  intro p e s m args below meth c H locs ls C hH hS hl
  exact lv_if_le C.1 C.2.1 hd ht (fun q => kt q p e s m args below meth c H locs ls C hH hS hl) (fun q => kf q p e s m args below meth c H locs ls C hH hS hl)
theorem x_tabIn {dflt lo hi : Int} {offs : Array Int} {len : Nat} {x : Int32} {off : Int} {tgt : Nat} (hd : decode cc pc = .ok (.tableswitch dflt lo hi offs, len)) (h1 : ¬ x.toInt < lo) (h2 : ¬ hi < x.toInt) (ho : offs[(x.toInt - lo).toNat]? = some off) (ht : (pc : Int) + off = (tgt : Int)) (kk : Wp G own cc nL nm ret R Z kc ks tgt L st h) : Wp G own cc nL nm ret R Z kc ks pc L (.int x :: st) h := by
  intro p e s m args below meth c H locs ls C hH hS hl
  exact lv_tableIn C.1 C.2.1 hd h1 h2 ho ht (kk p e s m args below meth c H locs ls C hH hS hl)
theorem x_tabOut {dflt lo hi : Int} {offs : Array Int} {len : Nat} {x : Int32} {tgt : Nat} (hd : decode cc pc = .ok (.tableswitch dflt lo hi offs, len)) (h1 : x.toInt < lo ∨ hi < x.toInt) (ht : (pc : Int) + dflt = (tgt : Int)) (kk : Wp G own cc nL nm ret R Z kc ks tgt L st h) : Wp G own cc nL nm ret R Z kc ks pc L (.int x :: st) h := by
  intro p e s m args below meth c H locs ls C hH hS hl
  exact lv_tableOut C.1 C.2.1 hd h1 ht (kk p e s m args below meth c H locs ls C hH hS hl)
theorem x_lookup {dflt : Int} {ps : Array (Int × Int)} {len : Nat} {x : Int32} {off : Int} {tgt : Nat} (hd : decode cc pc = .ok (.lookupswitch dflt ps, len)) (hp : (ps.toList.zip (ps.toList.drop 1)).all (fun (a, next) => a.1 < next.1) = true) (ho : Op.lookupswitch.offset ps.toList dflt x.toInt = off) (ht : (pc : Int) + off = (tgt : Int)) (kk : Wp G own cc nL nm ret R Z kc ks tgt L st h) : Wp G own cc nL nm ret R Z kc ks pc L (.int x :: st) h := by
  intro p e s m args below meth c H locs ls C hH hS hl
  exact lv_lookup C.1 C.2.1 hd hp ho ht (kk p e s m args below meth c H locs ls C hH hS hl)
end XR
section XM
variable {G : xG} {own : String} {cc : ByteArray} {nL : Nat} {nm : String} {ret : Option FieldType} {R : Room} {Z : xZ} {kc ks pc : Nat} {L : List (Nat × Value)} {st : List Value} {h : xH}
theorem xC.E {p : Program} {s : State} {m : MethodId} {args : Array Value} {meth : Method} {c : Code} (C : xC G own cc nL nm ret p s m args meth c) : xE G s s.heap := C.2.2.2.2.2.2.2.2
theorem xC.K {p : Program} {s : State} {m : MethodId} {args : Array Value} {meth : Method} {c : Code} (C : xC G own cc nL nm ret p s m args meth c) : va_K (xg_D G) vwCl (xT G) s := C.E.1
theorem xC.w {p : Program} {s : State} {m : MethodId} {args : Array Value} {meth : Method} {c : Code} (C : xC G own cc nL nm ret p s m args meth c) : ∀ w ∈ xW, w.before args s = true := C.2.2.2.2.1
theorem xC.n {p : Program} {s : State} {m : MethodId} {args : Array Value} {meth : Method} {c : Code} (C : xC G own cc nL nm ret p s m args meth c) : xg_n G ≤ s.heap.size := C.E.2.2.2.2.2.2.2.2.2.2
theorem x_getf {idx ci k a : Nat} {ty : FieldType} {fin : Bool} {fs : List Value} {v : Value} (hd : decode cc pc = .ok (.getfield idx, 3)) (hf : xFl own idx ci k ty fin) (hM : hAt h a = some (.inr (ci, fs))) (hv : fs[k]? = some v) (kk : Wp G own cc nL nm ret R Z kc ks (pc + 3) L (v :: st) h) : Wp G own cc nL nm ret R Z kc ks pc L (.ref a :: st) h := by
  intro p e s m args below meth c H locs ls C hH hS hl
  obtain ⟨C1, T1, N1, ty1, f1, f2, f3, f4, f5, f6, f7, f8, f9⟩ := hf
  exact va_get (D := xg_D G) (ci := ci) (v := v) (C := C1) (T := T1) (N := N1) C.1 C.2.1 C.w f2 C.2.2.2.1 C.K (hH.one hM) 0 (by rfl) f1 k f5 (C.w _ f6) (fun _ h9 => h9) hv hd (kk p e s m args below meth c H locs ls C hH hS hl)
theorem x_putf {idx ci k a : Nat} {ty : FieldType} {fs : List Value} {v : Value} (hd : decode cc pc = .ok (.putfield idx, 3)) (hf : xFl own idx ci k ty false) (hM : hAt h a = some (.inr (ci, fs))) (hn : narrow ty v = v) (hfit : fits ty v = true) (hlen : Nat.ble (k + 1) fs.length = true) {e' : gE} (he : (.inr (ci, fs.set k v) : gE) = e') (kk : Wp G own cc nL nm ret R Z kc ks (pc + 3) L st (hSet h a e')) : Wp G own cc nL nm ret R Z kc ks pc L (v :: .ref a :: st) h := by
  subst he
  intro p e s m args below meth c H locs ls C hH hS hl
  obtain ⟨C1, T1, N1, ty1, f1, f2, f3, f4, f5, f6, f7, f8, f9⟩ := hf
  have hlen : k < fs.length := Nat.le_of_ble_eq_true hlen
  have hap := va_apart (own := own) C.w f2 ty1 f3 f4 C.K f1
  obtain ⟨r, h1, cell, q1, q2, q3, q4⟩ := (hH.2 a _ hM).2
  have hr : r = (C1, T1, N1) := Option.some.inj (h1.symm.trans f1)
  subst hr
  obtain ⟨hSl, hfc, kC, hkC, hkind⟩ := C.K.1 ci _ f1
  obtain ⟨cf, kf, fi, f, hi, hsl⟩ := hSl k f5
  have hlay := C.w _ (f2 _ (u_in_lay f5))
  unfold u_lay at hlay
  rw [if_neg (by rw [f7]; decide)] at hlay
  have hst := (u_facts hfc hkC (u_lays C.w f2 f5) hi).1
  have h6 := u_store hfc hkC hkind hlay hi f8 hn hfit
  refine W.putK C.1 C.2.1 (f := f) ⟨C.2.2.2.1, C.w _ f6, ⟨_, _, _, hi⟩, hst⟩ (by rw [q2]; exact h6) q1 q3 (by rw [hsl]; exact k2_hasslot (q4 k f5)) rfl rfl hd fun H' e1 e2 e3 => ?_
  rw [hsl] at e1 ⊢
  exact kk p e s m args below meth c H' _ ls C (hH.set hM e2 ⟨_, f1, t_OB.to (V := updV (vp_V fs) k v) ⟨_, e1, q2, q3, t_set q4 hap f5 v⟩ (fun j _ => vp_updV_set hlen v j)⟩ e3) (hS.put e2 e3 (hH.2 a _ hM).1) hl
theorem x_putF {idx ci k a : Nat} {ty : FieldType} {fs : List Value} {v : Value} (hd : decode cc pc = .ok (.putfield idx, 3)) (hf : xFl own idx ci k ty true) (hown : vwCl[ci]?.map (fun q => q.1) = some own) (hnm : nm = "<init>") (hM : hAt h a = some (.inr (ci, fs))) (hn : narrow ty v = v) (hfit : fits ty v = true) (hlen : Nat.ble (k + 1) fs.length = true) {e' : gE} (he : (.inr (ci, fs.set k v) : gE) = e') (kk : Wp G own cc nL nm ret R Z kc ks (pc + 3) L st (hSet h a e')) : Wp G own cc nL nm ret R Z kc ks pc L (v :: .ref a :: st) h := by
  subst he
  intro p e s m args below meth c H locs ls C hH hS hl
  obtain ⟨C1, T1, N1, ty1, f1, f2, f3, f4, f5, f6, f7, f8, f9⟩ := hf
  have hlen : k < fs.length := Nat.le_of_ble_eq_true hlen
  have hap := va_apart (own := own) C.w f2 ty1 f3 f4 C.K f1
  obtain ⟨r, h1, cell, q1, q2, q3, q4⟩ := (hH.2 a _ hM).2
  have hr : r = (C1, T1, N1) := Option.some.inj (h1.symm.trans f1)
  subst hr
  have hC1 : C1 = own := by rw [f1] at hown; exact Option.some.inj hown
  obtain ⟨hSl, hfc, kC, hkC, hkind⟩ := C.K.1 ci _ f1
  obtain ⟨cf, kf, fi, f, hi, hsl⟩ := hSl k f5
  have hlay := C.w _ (f2 _ (u_in_lay f5))
  unfold u_lay at hlay
  rw [if_pos f7] at hlay
  have hst := (u_facts hfc hkC (u_lays C.w f2 f5) hi).1
  have hcf : m.cls = cf := by
    obtain ⟨_, _, c', _, _, _, -, -, hf', -, -, -, hown2, -⟩ := Cond.laysFinal_spec hlay
    have e1 : c' = cf := by have := hi.symm.trans hf'; simp at this; exact this.1.symm
    rw [f9, hC1] at hown2
    rw [← e1]; exact Option.some.inj (C.2.2.2.1.symm.trans hown2)
  have h6 := u_fits hfc hkC hkind (Or.inr hlay) hi f8 hn hfit
  refine W.putFinK C.1 C.2.1 C.2.2.2.1 (C.w _ f6) hi hst hcf (C.2.2.2.2.2.2.2.1.trans hnm) (by rw [q2]; exact h6) q1 q3 (by rw [hsl]; exact k2_hasslot (q4 k f5)) rfl rfl hd fun H' e1 e2 e3 => ?_
  rw [hsl] at e1 ⊢
  exact kk p e s m args below meth c H' _ ls C (hH.set hM e2 ⟨_, f1, t_OB.to (V := updV (vp_V fs) k v) ⟨_, e1, q2, q3, t_set q4 hap f5 v⟩ (fun j _ => vp_updV_set hlen v j)⟩ e3) (hS.put e2 e3 (hH.2 a _ hM).1) hl
theorem x_iald {a n : Nat} {f : Nat → Int32} {i : Int32} (hd : decode cc pc = .ok (.iaload, 1)) (hM : hAt h a = some (.inl (0, n, .inl f))) (hin : vp_in i n) {j : Nat} (hj : i.toNatClampNeg = j) (kk : Wp G own cc nL nm ret R Z kc ks (pc + 1) L (.int (f j) :: st) h) : Wp G own cc nL nm ret R Z kc ks pc L (.int i :: .ref a :: st) h := by
  subst hj
  intro p e s m args below meth c H locs ls C hH hS hl
  exact va_iald (D := xg_D G) C.1 C.2.1 C.K (hH.one hM) 0 0 (by rfl) (by rfl) hin hd (kk p e s m args below meth c H locs ls C hH hS hl)
theorem x_cald {a n : Nat} {f : Nat → Int32} {i : Int32} (hd : decode cc pc = .ok (.caload, 1)) (hM : hAt h a = some (.inl (1, n, .inl f))) (hin : vp_in i n) {j : Nat} (hj : i.toNatClampNeg = j) (kk : Wp G own cc nL nm ret R Z kc ks (pc + 1) L (.int (f j) :: st) h) : Wp G own cc nL nm ret R Z kc ks pc L (.int i :: .ref a :: st) h := by
  subst hj
  intro p e s m args below meth c H locs ls C hH hS hl
  exact va_cald (D := xg_D G) C.1 C.2.1 C.K (hH.one hM) 0 1 (by rfl) (by rfl) hin hd (kk p e s m args below meth c H locs ls C hH hS hl)
theorem x_iast {a n : Nat} {f : Nat → Int32} {i x : Int32} (hd : decode cc pc = .ok (.iastore, 1)) (hM : hAt h a = some (.inl (0, n, .inl f))) (hin : vp_in i n) {j : Nat} (hj : i.toNatClampNeg = j) {e' : gE} (he : (.inl (0, n, .inl (upd f j x)) : gE) = e') (kk : Wp G own cc nL nm ret R Z kc ks (pc + 1) L st (hSet h a e')) : Wp G own cc nL nm ret R Z kc ks pc L (.int x :: .int i :: .ref a :: st) h := by
  subst hj
  subst he
  intro p e s m args below meth c H locs ls C hH hS hl
  have hP : H[a]? = some (vp_cell (xg_a G 0) (n, .inl f)) := (hH.2 a _ hM).2
  refine W.iast C.1 C.2.1 hP ((C.K.2 0 _ (by rfl)).1 n (fun j => .int (f j))) (fun q => by cases q) (by show ¬ (i < 0 ∨ (arrV _ _ _).slots.size ≤ _); rw [arrV_size]; exact hin) rfl rfl hd fun H1 e1 z oq => ?_
  refine kk p e s m args below meth c H1 _ ls C (hH.set hM z ?_ oq) (hS.put z oq (hH.2 a _ hM).1) hl
  show H1[a]? = some (vp_cell _ _)
  rw [e1]
  show some ((vp_cell (xg_a G 0) (n, .inl f)).setSlot _ _) = _
  rw [vp_cell_i, vp_cell_i, arrV_store]
  congr 2
  funext q
  by_cases hq : q = i.toNatClampNeg
  · subst hq
    simp [updV, upd]
  · simp [updV, upd, hq]
theorem x_cast {a n : Nat} {f : Nat → Int32} {i x : Int32} (hd : decode cc pc = .ok (.castore, 1)) (hM : hAt h a = some (.inl (1, n, .inl f))) (hin : vp_in i n) {j : Nat} (hj : i.toNatClampNeg = j) {e' : gE} (he : (.inl (1, n, .inl (upd f j (vp_nar .char x))) : gE) = e') (kk : Wp G own cc nL nm ret R Z kc ks (pc + 1) L st (hSet h a e')) : Wp G own cc nL nm ret R Z kc ks pc L (.int x :: .int i :: .ref a :: st) h := by
  subst hj
  subst he
  intro p e s m args below meth c H locs ls C hH hS hl
  have hP : H[a]? = some (vp_cell (xg_a G 1) (n, .inl f)) := (hH.2 a _ hM).2
  refine W.cast C.1 C.2.1 hP ((C.K.2 1 _ (by rfl)).1 n (fun j => .int (f j))) (fun q => by cases q) (by show ¬ (i < 0 ∨ (arrV _ _ _).slots.size ≤ _); rw [arrV_size]; exact hin) rfl rfl hd fun H1 e1 z oq => ?_
  refine kk p e s m args below meth c H1 _ ls C (hH.set hM z ?_ oq) (hS.put z oq (hH.2 a _ hM).1) hl
  show H1[a]? = some (vp_cell _ _)
  rw [e1]
  show some ((vp_cell (xg_a G 1) (n, .inl f)).setSlot _ _) = _
  rw [vp_cell_i, vp_cell_i, arrV_store]
  congr 2
  funext q
  by_cases hq : q = i.toNatClampNeg
  · subst hq
    simp [updV, upd, vp_nar]
    try rfl
  · simp [updV, upd, hq]
theorem x_aald {t a n : Nat} {Cn : String} {f : Nat → Option Nat} {i : Int32} (ht : (xT G)[t]? = some (xg_a G t, .object Cn)) (hd : decode cc pc = .ok (.aaload, 1)) (hM : hAt h a = some (.inl (t, n, .inr (.inr (.inr (.inr f)))))) (hin : vp_in i n) {b : Nat} (hb : f i.toNatClampNeg = some b) (kk : Wp G own cc nL nm ret R Z kc ks (pc + 1) L (.ref b :: st) h) : Wp G own cc nL nm ret R Z kc ks pc L (.int i :: .ref a :: st) h := by
  intro p e s m args below meth c H locs ls C hH hS hl
  refine va_aldq (D := xg_D G) C.1 C.2.1 C.K (hH.one hM) 0 t (by rfl) ht hin hd ?_
  rw [hb]
  exact kk p e s m args below meth c H locs ls C hH hS hl
theorem x_aast {t ci a n v : Nat} {r : vw_C} {vs : List Value} {f : Nat → Option Nat} {i : Int32} (ht : (xT G)[t]? = some (xg_a G t, .object r.1)) (hc : vwCl[ci]? = some r) (hd : decode cc pc = .ok (.aastore, 1)) (hM : hAt h a = some (.inl (t, n, .inr (.inr (.inr (.inr f)))))) (hv : hAt h v = some (.inr (ci, vs))) (hin : vp_in i n) {e' : gE} (he : (.inl (t, n, .inr (.inr (.inr (.inr (va_up f i.toNatClampNeg (some v)))))) : gE) = e') (kk : Wp G own cc nL nm ret R Z kc ks (pc + 1) L st (hSet h a e')) : Wp G own cc nL nm ret R Z kc ks pc L (.ref v :: .int i :: .ref a :: st) h := by
  subst he
  intro p e s m args below meth c H locs ls C hH hS hl
  have hlt : i.toNatClampNeg < n := Nat.not_le.mp fun q => hin (Or.inr q)
  have h0 : ¬ i < 0 := fun q => hin (Or.inl q)
  obtain ⟨r', hr', cellV, g1, g2, g3, -⟩ := (hH.2 v _ hv).2
  have hcls := (C.K.1 ci r hc).2
  obtain ⟨kA, comp, k1, k2, k3, -⟩ := (C.K.2 t _ ht).2
  have hcomp : comp = (xg_D G).1 ci := Option.some.inj (k3.symm.trans hcls.1)
  subst hcomp
  obtain ⟨kC, hkC, -⟩ := hcls.2
  refine W.aast C.1 C.2.1 (hH.2 a _ hM).2 (fun q h => by cases h) (fun h => by cases h) k1 k2 rfl hkC ⟨h0, by show _ < (arrV _ _ _).slots.size; rw [arrV_size]; exact hlt⟩ g1 (fun q h => by rw [g3] at h; cases h) (by rw [g2]; exact hkC) (by rw [g2]; exact va_assign hcls) rfl rfl hd fun H1 e1 z oq => ?_
  refine kk p e s m args below meth c H1 _ ls C (hH.set hM z ?_ oq) (hS.put z oq (hH.2 a _ hM).1) hl
  show H1[a]? = some (vp_cell _ _)
  rw [e1]
  show some ((vp_cell (xg_a G t) (n, .inr (.inr (.inr (.inr f))))).setSlot _ _) = _
  rw [vp_cell_q, vp_cell_q, arrV_store]
  congr 2
  funext q
  by_cases hq : q = i.toNatClampNeg
  · subst hq
    simp [updV, va_up, va_rf]
  · simp [updV, va_up, hq]
/-- the law's own script -/
theorem x_sld {i : Int32} (hd : decode cc pc = .ok (.iaload, 1)) (hin : vp_in i (xg_L G)) (kk : Wp G own cc nL nm ret R Z kc ks (pc + 1) L (.int (xg_x G i.toNatClampNeg) :: st) h) : Wp G own cc nL nm ret R Z kc ks pc L (.int i :: .ref (xg_b G) :: st) h := by
  intro p e s m args below meth c H locs ls C hH hS hl
  exact va_sld C.1 C.2.1 C.E.2.2.2.2.2.2.2.2.1 C.E.2.2.2.2.2.2.2.2.2.1.1 C.E.2.2.2.2.2.2.2.2.2.1.2 hS hin hd (kk p e s m args below meth c H locs ls C hH hS hl)
theorem x_slen (hd : decode cc pc = .ok (.arraylength, 1)) (kk : Wp G own cc nL nm ret R Z kc ks (pc + 1) L (.int (Int32.ofNat (xg_L G)) :: st) h) : Wp G own cc nL nm ret R Z kc ks pc L (.ref (xg_b G) :: st) h := by
  intro p e s m args below meth c H locs ls C hH hS hl
  exact va_slen C.1 C.2.1 C.E.2.2.2.2.2.2.2.2.1 C.E.2.2.2.2.2.2.2.2.2.1.1 C.E.2.2.2.2.2.2.2.2.2.1.2 hS hd (kk p e s m args below meth c H locs ls C hH hS hl)
/-- a new object -/
theorem x_new {idx ci N : Nat} {fs : List Value} (hd : decode cc pc = .ok (.new idx, 3)) (hf : xNw own idx ci N fs) (hc : Nat.ble (kc + 1) R.cells = true) (hs : Nat.ble (ks + N) R.slots = true) (kk : Wp G own cc nL nm ret R Z (kc + 1) (ks + N) (pc + 3) L (.ref h.1 :: st) (hNew h (.inr (ci, fs)))) : Wp G own cc nL nm ret R Z kc ks pc L st h := by
  intro p e s m args below meth c H locs ls C hH hS hl
  obtain ⟨C1, T1, ty1, f1, f2, f3, f4, f5, f6, f7⟩ := hf
  have hKn := C.K.1 ci _ f1
  refine W.newcK C.1 C.2.1 C.2.2.2.1 (C.w _ f4) (C.w _ f5) (C.w _ f6) rfl hd (Nat.le_of_ble_eq_true hc) (Nat.le_of_ble_eq_true hs) hKn.2.1 hH.1 fun H1 kC hkC e1 z1 o1 => ?_
  have hsz := hH.1
  refine kk p e s m args below meth c H1 locs ls C (hH.new (Nat.le_trans C.n hS.1) (by rw [hsz]; exact z1) ⟨_, f1, (u_born ty1 C.w f2 hKn hkC (by rw [hsz]; exact e1) f3).to f7⟩ (by rw [hsz]; exact o1)) ⟨Nat.le_trans hS.1 (by omega), fun x h1 h2 => (o1 x (by have := hS.1; omega)).trans (hS.2.1 x h1 h2), hS.2.2⟩ hl
theorem x_objInit {idx a : Nat} (hd : decode cc pc = .ok (.invokespecial idx, 3)) (hlk : Cond.methodLink own idx objectInit ∈ xW) (hR : Nat.ble 1 R.frames = true) (hR2 : Nat.ble 20 R.locals = true) (hsm : Nat.ble (st.map fun v => v.category).sum 8 = true) (kk : Wp G own cc nL nm ret R Z kc ks (pc + 3) L st h) : Wp G own cc nL nm ret R Z kc ks pc L (.ref a :: st) h := by
  intro p e s m args below meth c H locs ls C hH hS hl
  have h1 := Nat.le_of_ble_eq_true hsm
  have h2 := Nat.le_of_ble_eq_true hR2
  refine W.objInit C.1 C.2.1 C.2.2.2.1 (C.w _ hlk) (C.w _ xw_oi) (C.w _ xw_oc) rfl (by show ls.size = _; rw [C.2.2.1]; exact hl.1) rfl hd (Nat.le_of_ble_eq_true hR) (by show 2 * 0 + _ + 12 ≤ _; omega) ?_
  exact kk p e s m args below meth c H locs ls C hH hS hl
/-- the ends -/
theorem x_iret {bc bs : Nat} {Q : Option Value → xH → Prop} {ty : FieldType} {v : Int32} (hd : decode cc pc = .ok (.ireturn, 1)) (hr : ret = some ty) (hn : narrow ty (.int v) = .int v) (hc : Nat.ble kc bc = true) (hs : Nat.ble ks bs = true) (hq : Q (some (.int v)) h) : Wp G own cc nL nm ret R (xZm G bc bs Q) kc ks pc L [.int v] h := by
  intro p e s m args below meth c H locs ls C hH hS hl
  refine W.widen (Nat.le_of_ble_eq_true hc) (Nat.le_of_ble_eq_true hs) ?_
  exact W.zret C.1 C.2.1 (C.2.2.2.2.2.1.trans hr) hn (fun t ht hW => ⟨⟨_, h, rfl, hq, by rw [ht]; exact hH⟩, hS.F ht⟩) hS.2.2 hd C.2.2.2.2.2.2.1
theorem x_lret {bc bs : Nat} {Q : Option Value → xH → Prop} {v : Int64} (hd : decode cc pc = .ok (.lreturn, 1)) (hr : ret = some .long) (hc : Nat.ble kc bc = true) (hs : Nat.ble ks bs = true) (hq : Q (some (.long v)) h) : Wp G own cc nL nm ret R (xZm G bc bs Q) kc ks pc L [.long v] h := by
  intro p e s m args below meth c H locs ls C hH hS hl
  refine W.widen (Nat.le_of_ble_eq_true hc) (Nat.le_of_ble_eq_true hs) ?_
  exact W.lret C.1 C.2.1 (C.2.2.2.2.2.1.trans hr) (fun t ht hW => ⟨⟨_, h, rfl, hq, by rw [ht]; exact hH⟩, hS.F ht⟩) hS.2.2 hd C.2.2.2.2.2.2.1
theorem x_vret {bc bs : Nat} {Q : Option Value → xH → Prop} (hd : decode cc pc = .ok (.return_, 1)) (hr : ret = none) (hc : Nat.ble kc bc = true) (hs : Nat.ble ks bs = true) (hq : Q none h) : Wp G own cc nL nm ret R (xZm G bc bs Q) kc ks pc L [] h := by
  intro p e s m args below meth c H locs ls C hH hS hl
  refine W.widen (Nat.le_of_ble_eq_true hc) (Nat.le_of_ble_eq_true hs) ?_
  exact W.vret C.1 C.2.1 (C.2.2.2.2.2.1.trans hr) (fun t ht hW => ⟨⟨_, h, rfl, hq, by rw [ht]; exact hH⟩, hS.F ht⟩) hS.2.2 hd C.2.2.2.2.2.2.1
/-- a new row of ints (kind 0) or chars (kind 1) -/
theorem x_newa {t N : Nat} {atype : ArrayType} {ty : FieldType} {n : Int32} (hd : decode cc pc = .ok (.newarray atype, 2)) (hat : newarray.typeOf atype = ty) (htt : (xT G)[t]? = some (xg_a G t, ty)) (hne : ∀ C, ty ≠ .object C) (hdf : defaultValue ty = .int 0) (hw : Cond.arrayClass ty ∈ xW) (hn : n = nI N) (hN : Nat.ble N 100000 = true) (hcb : Nat.ble (componentBytes ty) 8 = true) (hc : Nat.ble (kc + 1) R.cells = true) (hs : Nat.ble (ks + N) R.slots = true) (kk : Wp G own cc nL nm ret R Z (kc + 1) (ks + N) (pc + 2) L (.ref h.1 :: st) (hNew h (.inl (t, N, .inl (fun _ => 0))))) : Wp G own cc nL nm ret R Z kc ks pc L (.int n :: st) h := by
  intro p e s m args below meth c H locs ls C hH hS hl
  subst hat
  have hN' := Nat.le_of_ble_eq_true hN
  have hcb' := Nat.le_of_ble_eq_true hcb
  have hsz := hH.1
  refine va_newaK C.1 C.2.1 (C.w _ hw) rfl hd rfl (by rw [hn]; exact nI_pos (by omega)) (by rw [hn]; exact nI_clamp (by omega)) (Nat.le_trans (Nat.mul_le_mul hN' hcb') (by decide)) (Nat.le_of_ble_eq_true hc) (Nat.le_of_ble_eq_true hs) hH.1 fun H1 cA e1 z1 o1 hAr hNm => ?_
  have hA : cA = xg_a G t := by
    have h1 := (C.K.2 t _ htt).2
    have h2 : s.vm.findClass ("[" ++ (newarray.typeOf atype).toString) = some (xg_a G t) := by
      revert h1 hne
      cases newarray.typeOf atype <;> intro hne h1 <;> first | exact absurd rfl (hne _) | exact h1
    exact Option.some.inj (hNm.symm.trans h2)
  subst hA
  refine kk p e s m args below meth c H1 locs ls C (hH.new (Nat.le_trans C.n hS.1) (by rw [hsz]; exact z1) ?_ (by rw [hsz]; exact o1)) ⟨Nat.le_trans hS.1 (by omega), fun x h1 h2 => (o1 x (by have := hS.1; omega)).trans (hS.2.1 x h1 h2), hS.2.2⟩ hl
  show H1[H.size]? = some (vp_cell _ _)
  rw [hsz, vp_cell_i]
  rw [hdf] at e1
  exact e1
/-- a new row of references -/
theorem x_newq {t idx N : Nat} {Cn : String} {n : Int32} (hd : decode cc pc = .ok (.anewarray idx, 3)) (htt : (xT G)[t]? = some (xg_a G t, .object Cn)) (hao : ∀ s : State, xE G s s.heap → va_AO Cn s) (hw : Cond.classLink own idx Cn ∈ xW) (hn : n = nI N) (hN : Nat.ble N 100000 = true) (hc : Nat.ble (kc + 1) R.cells = true) (hs : Nat.ble (ks + N) R.slots = true) (kk : Wp G own cc nL nm ret R Z (kc + 1) (ks + N) (pc + 3) L (.ref h.1 :: st) (hNew h (.inl (t, N, .inr (.inr (.inr (.inr (fun _ => none)))))))) : Wp G own cc nL nm ret R Z kc ks pc L (.int n :: st) h := by
  intro p e s m args below meth c H locs ls C hH hS hl
  have hN' := Nat.le_of_ble_eq_true hN
  have hsz := hH.1
  have hnN : n.toNatClampNeg = N := by rw [hn]; exact nI_clamp (by omega)
  refine W.anew C.1 C.2.1 C.2.2.2.1 (C.w _ hw) (va_AO.use (hao s C.E)) rfl hd rfl (by rw [hn]; exact nI_pos (by omega)) (by rw [hnN]; omega) (Nat.le_of_ble_eq_true hc) (by rw [hnN]; exact Nat.le_of_ble_eq_true hs) fun cA kA comp f1 f2 f3 f4 => ?_
  rw [hnN]
  generalize hH1 : H.push ({ cls := cA, slots := Array.replicate N .null, vm := .none } : Cell) = H1
  have z1 : H1.size = H.size + 1 := by rw [← hH1, Array.size_push]
  have e1 : H1[H.size]? = some (arrV cA N (fun _ => .null)) := by rw [← hH1, Array.getElem?_push_size, ← arrV_new]
  have o1 : ∀ q : Nat, q < H.size → H1[q]? = H[q]? := fun q hq => by rw [← hH1, Array.getElem?_push, if_neg (Nat.ne_of_lt hq)]
  have hA : cA = xg_a G t := by
    obtain ⟨_, _, -, -, -, h4⟩ := (C.K.2 t _ htt).2
    exact Option.some.inj (f1.symm.trans h4)
  subst hA
  have kk' := kk p e s m args below meth c H1 locs ls C (hH.new (Nat.le_trans C.n hS.1) z1 (by
    show H1[H.size]? = some (vp_cell _ _)
    rw [vp_cell_q]
    exact e1) o1) ⟨Nat.le_trans hS.1 (by omega), fun x h1 h2 => (o1 x (Nat.lt_of_lt_of_le h1 hS.1)).trans (hS.2.1 x h1 h2), hS.2.2⟩ hl
  rw [← hsz] at kk'
  exact kk'
/-- Math.max, Math.min -/
theorem x_max {idx : Nat} {x y : Int32} (hd : decode cc pc = .ok (.invokestatic idx, 3)) (hlk : Cond.methodLink own idx Lib.Math.max.name ∈ xW) (hc : Nat.ble kc R.cells = true) (hs : Nat.ble ks R.slots = true) (hR : Nat.ble 1 R.frames = true) (hR2 : Nat.ble 21 R.locals = true) (hsm : Nat.ble (st.map fun v => v.category).sum 8 = true) (kk : Wp G own cc nL nm ret R Z kc ks (pc + 3) L (.int (if x < y then y else x) :: st) h) : Wp G own cc nL nm ret R Z kc ks pc L (.int y :: .int x :: st) h := by
  intro p e s m args below meth c H locs ls C hH hS hl
  have h1 := Nat.le_of_ble_eq_true hsm
  have h2 := Nat.le_of_ble_eq_true hR2
  exact va_mmax C.1 C.2.1 (by rw [C.2.2.1]; exact hl.1.symm) C.2.2.2.1 (C.w _ hlk) (C.w _ xw_maxs) (C.w _ xw_math) (C.w _ xw_maxc) (Nat.le_of_ble_eq_true hR) (by omega) (Nat.le_of_ble_eq_true hc) (Nat.le_of_ble_eq_true hs) hd (kk p e s m args below meth c H locs ls C hH hS hl)
theorem x_min {idx : Nat} {x y : Int32} (hd : decode cc pc = .ok (.invokestatic idx, 3)) (hlk : Cond.methodLink own idx Lib.Math.min.name ∈ xW) (hc : Nat.ble kc R.cells = true) (hs : Nat.ble ks R.slots = true) (hR : Nat.ble 1 R.frames = true) (hR2 : Nat.ble 21 R.locals = true) (hsm : Nat.ble (st.map fun v => v.category).sum 8 = true) (kk : Wp G own cc nL nm ret R Z kc ks (pc + 3) L (.int (if y < x then y else x) :: st) h) : Wp G own cc nL nm ret R Z kc ks pc L (.int y :: .int x :: st) h := by
  intro p e s m args below meth c H locs ls C hH hS hl
  have h1 := Nat.le_of_ble_eq_true hsm
  have h2 := Nat.le_of_ble_eq_true hR2
  exact va_mmin C.1 C.2.1 (by rw [C.2.2.1]; exact hl.1.symm) C.2.2.2.1 (C.w _ hlk) (C.w _ xw_mins) (C.w _ xw_math) (C.w _ xw_minc) (Nat.le_of_ble_eq_true hR) (by omega) (Nat.le_of_ble_eq_true hc) (Nat.le_of_ble_eq_true hs) hd (kk p e s m args below meth c H locs ls C hH hS hl)
/-- System.arraycopy of ints: all of n places from the first on -/
theorem x_copy {idx a0 a1 n0 n1 n : Nat} {f g : Nat → Int32} {k : Int32} (hd : decode cc pc = .ok (.invokestatic idx, 3)) (hlk : Cond.methodLink own idx arraycopyName ∈ xW) (hM0 : hAt h a0 = some (.inl (0, n0, .inl f))) (hM1 : hAt h a1 = some (.inl (0, n1, .inl g))) (hk : k = nI n) (hkn : Nat.ble n 100000 = true) (hn0 : Nat.ble n n0 = true) (hn1 : Nat.ble n n1 = true) (hR : Nat.ble 1 R.frames = true) (hR2 : Nat.ble (8 + (nativeFrameWords "java/lang/System" "arraycopy" 5 + 11)) R.locals = true) (hsm : Nat.ble (st.map fun v => v.category).sum 8 = true) {e' : gE} (he : (.inl (0, n1, .inl (va_cpy f g 0 0 n)) : gE) = e') (kk : Wp G own cc nL nm ret R Z kc ks (pc + 3) L st (hSet h a1 e')) : Wp G own cc nL nm ret R Z kc ks pc L (.int k :: .int 0 :: .ref a1 :: .int 0 :: .ref a0 :: st) h := by
  subst he
  intro p e s m args below meth c H locs ls C hH hS hl
  have h1 := Nat.le_of_ble_eq_true hsm
  have h2 := Nat.le_of_ble_eq_true hR2
  have h3 := Nat.le_of_ble_eq_true hkn
  have h4 := Nat.le_of_ble_eq_true hn0
  have h5 := Nat.le_of_ble_eq_true hn1
  have hkc : k.toNatClampNeg = n := by rw [hk]; exact nI_clamp (by omega)
  have hk0 : ¬ k < 0 := by rw [hk]; exact nI_pos (by omega)
  have hkI : k.toInt = (n : Int) := by rw [hk]; exact nI_toInt (by omega)
  intro T hT X
  have hc0 : H[a0]? = some (vp_cell (xg_a G 0) (n0, .inl f)) := (hH.2 a0 _ hM0).2
  have hc1 : H[a1]? = some (vp_cell (xg_a G 0) (n1, .inl g)) := (hH.2 a1 _ hM1).2
  obtain ⟨-, k0, hk0', cm0, hkk0⟩ := (C.K.2 0 _ rfl).1 n0 (fun j => .int (f j))
  obtain ⟨-, k1, hk1', cm1, hkk1⟩ := (C.K.2 0 _ rfl).1 n1 (fun j => .int (g j))
  obtain ⟨vm', X', step⟩ := X.arraycopy C.1 C.2.2.2.1 (C.w _ hlk) (C.w _ xw_acn) (C.w _ xw_acs) (C.w _ xw_sys) (src := a0) (dst := a1) (cs := vp_cell (xg_a G 0) (n0, .inl f)) (cd := vp_cell (xg_a G 0) (n1, .inl g)) (srcPos := 0) (destPos := 0) (n := k) (by rw [hT]; exact hc0) (by rw [hT]; exact hc1)
    (fun _ h => by cases h) (fun _ h => by cases h) (fun h => by cases h) (fun h => by cases h) hk0' hk1' hkk0 hkk1 (by simp [refKind]) (by decide) (by decide) hk0
    (by rw [hkI]; show ¬ (0 : Int) + _ > ((arrV _ n0 (fun j => .int (f j))).slots.size : Int); rw [arrV_size]; omega)
    (by rw [hkI]; show ¬ (0 : Int) + _ > ((arrV _ n1 (fun j => .int (g j))).slots.size : Int); rw [arrV_size]; omega)
    (fun vm₁ _ i hi => by
      have e : (vp_cell (xg_a G 0) (n0, .inl f)).slots.getD ((0 : Int32).toNatClampNeg + i) .null = .int (f ((0 : Int32).toNatClampNeg + i)) := by
        show (arrV _ n0 (fun j => .int (f j))).slots.getD _ _ = _
        rw [Array.getD_eq_getD_getElem?, arrV_read _ _ (by have : (0 : Int32).toNatClampNeg = 0 := rfl; omega)]
        rfl
      refine ⟨?_, ?_⟩
      · rw [e]
        rfl
      · rw [e]
        exact trivial)
    (g := F0 m pc ls (.int k :: .int 0 :: .ref a1 :: .int 0 :: .ref a0 :: st)) rfl (by rw [C.2.2.1]; exact hl.1) (rest := st) rfl (by rw [C.2.1]; exact hd) (Nat.le_of_ble_eq_true hR) (by show 2 * 0 + _ + _ ≤ _; omega)
  have e1 : copied (vp_cell (xg_a G 0) (n0, .inl f)) (vp_cell (xg_a G 0) (n1, .inl g)) 0 0 k = vp_cell (xg_a G 0) (n1, .inl (va_cpy f g 0 0 n)) := by
    have e0 : copied (vp_cell (xg_a G 0) (n0, .inl f)) (vp_cell (xg_a G 0) (n1, .inl g)) 0 0 k = vp_cell (xg_a G 0) (n1, .inl (va_cpy f g (0 : Int32).toNatClampNeg (0 : Int32).toNatClampNeg k.toNatClampNeg)) := va_copied (fun z => .int z) (xg_a G 0) (xg_a G 0) f g (by rw [hkc]; show 0 + n ≤ n0; omega)
    rw [hkc] at e0
    exact e0
  rw [e1] at X' step
  have hl1 : a1 < H.size := (Array.getElem?_eq_some_iff.mp hc1).1
  have hheap : ((T.setVm vm').setCell a1 (vp_cell (xg_a G 0) (n1, .inl (va_cpy f g 0 0 n)))).heap = H.setIfInBounds a1 (vp_cell (xg_a G 0) (n1, .inl (va_cpy f g 0 0 n))) := by rw [← hT]; rfl
  have oq : ∀ q : Nat, q ≠ a1 → (H.setIfInBounds a1 (vp_cell (xg_a G 0) (n1, .inl (va_cpy f g 0 0 n))))[q]? = H[q]? := fun q hq => by simp [Array.getElem?_setIfInBounds, Ne.symm hq]
  have hA1 := (hH.2 a1 _ hM1).1
  obtain ⟨t, b1, b2⟩ := kk p e s m args below meth c _ _ ls C (hH.set hM1 (by simp) (show (H.setIfInBounds a1 _)[a1]? = some _ by simp [Array.getElem?_setIfInBounds, hl1]) oq) ⟨by simp; exact hS.1, fun q g1 g2 => by
      rw [oq q (fun e => g2 (by rw [e]; exact hA1))]
      exact hS.2.1 q g1 g2, fun q hq => by
      rcases List.mem_append.mp hq with h | h
      · exact hS.2.2 q h
      · obtain ⟨z, -, hz⟩ := List.mem_map.mp h
        rw [← hz]
        exact hA1⟩ hl _ hheap X'
  exact ⟨t, step t b1, b2⟩
end XM
section XK
variable {G : xG} {own : String} {cc : ByteArray} {nL : Nat} {nm : String} {ret : Option FieldType} {R : Room} {Z : xZ} {kc ks pc : Nat} {L : List (Nat × Value)} {st rest : List Value} {h : xH}
variable {d mc ms n nL' idx a : Nat} {y : MethodName} {cc' : ByteArray} {ret' : Option FieldType} {As : List Value} {Q : Option Value → xH → Prop}
theorem xPc_blind (G : xG) (av : List Value) (h : xH) : FrameBlind (va_Pc av (fun U => xE G U U.heap ∧ xHo G h U.heap)) := fun a U g mk q => ⟨q.1, xE.same (u := U) (U := U.calling g mk a) rfl q.2.1, q.2.2⟩
theorem xPc_at {p : Program} {s : State} {m : MethodId} {args : Array Value} {meth : Method} {c : Code} {H : Heap} {locs : List Loc} (C : xC G own cc nL nm ret p s m args meth c) (hH : xHo G h H) (hS : va_S (xA G) s.heap H locs) (av : List Value) : ∀ U : State, U.heap = H → s.WarmedH U.vm → va_Pc av (fun U => xE G U U.heap ∧ xHo G h U.heap) av.toArray U := by
  intro U hU hW
  refine ⟨rfl, ?_, by rw [hU]; exact hH⟩
  rw [hU]
  exact (C.E.warm hW).kept hS
theorem xGood (hc : Cond.code y cc' nL' ret' ∈ xW) : GoodIn xW (Cond.code y cc' nL' ret' :: xW) := by
  intro w hw
  rcases List.mem_cons.mp hw with rfl | hw
  · exact ⟨hc, xW_good hc⟩
  · exact ⟨hw, xW_good hw⟩
theorem xCallB {p : Program} {s : State} {m : MethodId} {args : Array Value} {meth : Method} {c : Code} (C : xC G own cc nL nm ret p s m args meth c) (hy : xMy y cc' nL' ret' n) (hlk : Cond.methodLink own idx y ∈ xW) (hR : (Nat.ble (d + 1) R.frames && Nat.ble (8 + (nL' + 11) + 39 * d) R.locals) = true) : CallB R s args own idx y cc' nL' ret' (Cond.code y cc' nL' ret' :: xW) (xR d mc ms) mc ms n := by
  rw [Bool.and_eq_true] at hR
  exact callB_of n C.w (xGood hy.1) rfl rfl rfl (C.w _ hy.2.1) (C.w _ hlk) hy.2.2 ⟨Nat.le_of_ble_eq_true hR.1, Nat.le_of_ble_eq_true hR.2⟩
theorem xCallN {p : Program} {s : State} {m : MethodId} {args : Array Value} {meth : Method} {c : Code} {host : String} (C : xC G own cc nL nm ret p s m args meth c) (hy : xMy y cc' nL' ret' n) (hlk : Cond.methodLinkNest own idx y host ∈ xNest) (hR : (Nat.ble (d + 1) R.frames && Nat.ble (8 + (nL' + 11) + 39 * d) R.locals) = true) : va_CN R s args own idx y host cc' nL' ret' (Cond.code y cc' nL' ret' :: xW) (xR d mc ms) mc ms n := by
  rw [Bool.and_eq_true] at hR
  exact va_cnB n C.w (xGood hy.1) rfl rfl rfl (C.E.2.2.2.1 _ hlk) (C.w _ hy.2.1) hy.2.2 ⟨Nat.le_of_ble_eq_true hR.1, Nat.le_of_ble_eq_true hR.2⟩
/-- behind a call -/
theorem xAfter {p : Program} {e : Env} {s : State} {m : MethodId} {args : Array Value} {below : List Frame} {meth : Method} {c : Code} {H : Heap} {locs : List Loc} {ls : Array Slot} {aa : Array Value} {Qf : State → Prop} (hr : va_Run p G.1 e R s m args below meth c H locs kc ks mc ms (F0 m pc ls st) rest (xQ G Q aa) (xA G)) (hS : va_S (xA G) s.heap H locs)
    (kk : ∀ (v : Option Value) (h1 : xH) (H1 : Heap) (locs1 : List Loc), Q v h1 → xHo G h1 H1 → va_S (xA G) s.heap H1 locs1 → W p G.1 e R s m args below meth c H1 locs1 (kc + mc) (ks + ms) Qf (F0 m (pc + 3) ls (v.toList ++ rest))) : W p G.1 e R s m args below meth c H locs kc ks Qf (F0 m pc ls st) := by
  intro T hT X
  obtain ⟨v, st₀, t, T', L1, h0, X', hL, e1, e2, ⟨⟨v', h', hv, hq, hH'⟩, hz, hk⟩, stp⟩ := hr T hT X
  cases hv
  rw [h0] at hz hk
  obtain ⟨t2, a1, b1⟩ := kk v h' T'.heap (locs ++ L1) hq (by rw [e1]; exact hH')
    ⟨Nat.le_trans hS.1 (by rw [e1]; exact hz), fun q h1 h2 => by rw [e1, hk q (Nat.lt_of_lt_of_le h1 hS.1) h2]; exact hS.2.1 q h1 h2, fun q hq => by
      rcases List.mem_append.mp hq with h | h
      · exact hS.2.2 q h
      · exact hL q h⟩ T' rfl X'
  exact ⟨t2, stp t2 a1, b1⟩
theorem x_callV {ci : Nat} {fs : List Value} (hd : decode cc pc = .ok (.invokevirtual idx, 3)) (hlk : Cond.methodLink own idx y ∈ xW) (hy : xMv y cc' nL' ret' n) (hM : hAt h a = some (.inr (ci, fs))) (hci : vwCl[ci]?.map (fun q => q.1) = some y.cls) (hlen : As.length = n) (hR : (Nat.ble (d + 1) R.frames && Nat.ble (8 + (nL' + 11) + 39 * d) R.locals) = true) (hcs : (Nat.ble (kc + mc) R.cells && Nat.ble (ks + ms) R.slots) = true) (hsm : Nat.ble (rest.map fun v => v.category).sum 8 = true) (hst : st = As.reverse ++ .ref a :: rest) (hct : Ct G d mc ms y cc' nL' ret' (.ref a :: As) h Q) (kk : ∀ v h1, Q v h1 → Wp G own cc nL nm ret R Z (kc + mc) (ks + ms) (pc + 3) L (v.toList ++ rest) h1) : Wp G own cc nL nm ret R Z kc ks pc L st h := by
  intro p e s m args below meth c H locs ls C hH hS hl
  rw [Bool.and_eq_true] at hcs
  cases hcq : vwCl[ci]? with
  | none => rw [hcq] at hci; cases hci
  | some q =>
    rw [hcq] at hci
    have hqc : q.1 = y.cls := Option.some.inj hci
    refine xAfter (va_runV (As := As) (rest := rest) ⟨C.1, C.2.1, C.2.2.1, C.2.2.2.1, C.w⟩ hct ⟨xCallB C hy.1 hlk hR, C.w _ hy.2.1, C.w _ hy.2.2⟩ ⟨xPc_blind G _ h, by rw [← hqc]; exact va_recv C.K (hH.one hM) (ci := ci) (q0 := 0) hcq rfl, xPc_at C hH hS _⟩ rfl hlen hl.1 hst (lv_room (Nat.le_of_ble_eq_true hsm)) hd ⟨Nat.le_of_ble_eq_true hcs.1, Nat.le_of_ble_eq_true hcs.2⟩) hS (fun v h1 H1 locs1 hq hH1 hS1 => ?_)
    exact kk v h1 hq p e s m args below meth c H1 locs1 ls C hH1 hS1 hl
theorem x_callS (hd : decode cc pc = .ok (.invokestatic idx, 3)) (hlk : Cond.methodLink own idx y ∈ xW) (hy : xMs y cc' nL' ret' n) (hlen : As.length = n) (hR : (Nat.ble (d + 1) R.frames && Nat.ble (8 + (nL' + 11) + 39 * d) R.locals) = true) (hcs : (Nat.ble (kc + mc) R.cells && Nat.ble (ks + ms) R.slots) = true) (hsm : Nat.ble (rest.map fun v => v.category).sum 8 = true) (hst : st = As.reverse ++ rest) (hct : Ct G d mc ms y cc' nL' ret' As h Q) (kk : ∀ v h1, Q v h1 → Wp G own cc nL nm ret R Z (kc + mc) (ks + ms) (pc + 3) L (v.toList ++ rest) h1) : Wp G own cc nL nm ret R Z kc ks pc L st h := by
  intro p e s m args below meth c H locs ls C hH hS hl
  rw [Bool.and_eq_true] at hcs
  refine xAfter (va_runS (As := As) (rest := rest) ⟨C.1, C.2.1, C.2.2.1, C.2.2.2.1, C.w⟩ hct ⟨xCallB C hy.1 hlk hR, C.w _ hy.2⟩ ⟨xPc_blind G _ h, xPc_at C hH hS _⟩ rfl hlen hl.1 hst (lv_room (Nat.le_of_ble_eq_true hsm)) hd ⟨Nat.le_of_ble_eq_true hcs.1, Nat.le_of_ble_eq_true hcs.2⟩) hS (fun v h1 H1 locs1 hq hH1 hS1 => ?_)
  exact kk v h1 hq p e s m args below meth c H1 locs1 ls C hH1 hS1 hl
theorem x_callSN {host : String} (hd : decode cc pc = .ok (.invokestatic idx, 3)) (hlk : Cond.methodLinkNest own idx y host ∈ xNest) (hy : xMs y cc' nL' ret' n) (hlen : As.length = n) (hR : (Nat.ble (d + 1) R.frames && Nat.ble (8 + (nL' + 11) + 39 * d) R.locals) = true) (hcs : (Nat.ble (kc + mc) R.cells && Nat.ble (ks + ms) R.slots) = true) (hsm : Nat.ble (rest.map fun v => v.category).sum 8 = true) (hst : st = As.reverse ++ rest) (hct : Ct G d mc ms y cc' nL' ret' As h Q) (kk : ∀ v h1, Q v h1 → Wp G own cc nL nm ret R Z (kc + mc) (ks + ms) (pc + 3) L (v.toList ++ rest) h1) : Wp G own cc nL nm ret R Z kc ks pc L st h := by
  intro p e s m args below meth c H locs ls C hH hS hl
  rw [Bool.and_eq_true] at hcs
  refine xAfter (va_runSN (As := As) (rest := rest) ⟨C.1, C.2.1, C.2.2.1, C.2.2.2.1, C.w⟩ hct ⟨xCallN C hy.1 hlk hR, C.w _ hy.2, trivial⟩ ⟨xPc_blind G _ h, xPc_at C hH hS _⟩ rfl hlen hl.1 hst (lv_room (Nat.le_of_ble_eq_true hsm)) hd ⟨Nat.le_of_ble_eq_true hcs.1, Nat.le_of_ble_eq_true hcs.2⟩) hS (fun v h1 H1 locs1 hq hH1 hS1 => ?_)
  exact kk v h1 hq p e s m args below meth c H1 locs1 ls C hH1 hS1 hl
theorem x_callI (hd : decode cc pc = .ok (.invokespecial idx, 3)) (hlk : Cond.methodLink own idx y ∈ xW) (hy : xMi y cc' nL' none n) (hlen : As.length = n) (hR : (Nat.ble (d + 1) R.frames && Nat.ble (8 + (nL' + 11) + 39 * d) R.locals) = true) (hcs : (Nat.ble (kc + mc) R.cells && Nat.ble (ks + ms) R.slots) = true) (hsm : Nat.ble (rest.map fun v => v.category).sum 8 = true) (hst : st = As.reverse ++ .ref a :: rest) (hct : Ct G d mc ms y cc' nL' none (.ref a :: As) h Q) (kk : ∀ v h1, Q v h1 → Wp G own cc nL nm ret R Z (kc + mc) (ks + ms) (pc + 3) L (v.toList ++ rest) h1) : Wp G own cc nL nm ret R Z kc ks pc L st h := by
  intro p e s m args below meth c H locs ls C hH hS hl
  rw [Bool.and_eq_true] at hcs
  refine xAfter (va_runI (As := As) (rest := rest) ⟨C.1, C.2.1, C.2.2.1, C.2.2.2.1, C.w⟩ hct ⟨xCallB C hy.1 hlk hR, hy.2.2, C.w _ hy.2.1⟩ ⟨xPc_blind G _ h, xPc_at C hH hS _⟩ rfl hlen hl.1 hst (lv_room (Nat.le_of_ble_eq_true hsm)) hd ⟨Nat.le_of_ble_eq_true hcs.1, Nat.le_of_ble_eq_true hcs.2⟩) hS (fun v h1 H1 locs1 hq hH1 hS1 => ?_)
  exact kk v h1 hq p e s m args below meth c H1 locs1 ls C hH1 hS1 hl
theorem x_callIN {host : String} (hd : decode cc pc = .ok (.invokespecial idx, 3)) (hlk : Cond.methodLinkNest own idx y host ∈ xNest) (hy : xMi y cc' nL' none n) (hlen : As.length = n) (hR : (Nat.ble (d + 1) R.frames && Nat.ble (8 + (nL' + 11) + 39 * d) R.locals) = true) (hcs : (Nat.ble (kc + mc) R.cells && Nat.ble (ks + ms) R.slots) = true) (hsm : Nat.ble (rest.map fun v => v.category).sum 8 = true) (hst : st = As.reverse ++ .ref a :: rest) (hct : Ct G d mc ms y cc' nL' none (.ref a :: As) h Q) (kk : ∀ v h1, Q v h1 → Wp G own cc nL nm ret R Z (kc + mc) (ks + ms) (pc + 3) L (v.toList ++ rest) h1) : Wp G own cc nL nm ret R Z kc ks pc L st h := by
  intro p e s m args below meth c H locs ls C hH hS hl
  rw [Bool.and_eq_true] at hcs
  refine xAfter (va_runIN (As := As) (rest := rest) ⟨C.1, C.2.1, C.2.2.1, C.2.2.2.1, C.w⟩ hct ⟨xCallN C hy.1 hlk hR, hy.2.2, C.w _ hy.2.1⟩ ⟨xPc_blind G _ h, xPc_at C hH hS _⟩ rfl hlen hl.1 hst (lv_room (Nat.le_of_ble_eq_true hsm)) hd ⟨Nat.le_of_ble_eq_true hcs.1, Nat.le_of_ble_eq_true hcs.2⟩) hS (fun v h1 H1 locs1 hq hH1 hS1 => ?_)
  exact kk v h1 hq p e s m args below meth c H1 locs1 ls C hH1 hS1 hl
end XK
/-- a contract that says all: the answer v, the heap h1 -/
abbrev Cd (G : xG) (d : Nat) (y : MethodName) (cc : ByteArray) (nL : Nat) (ret : Option FieldType) (av : List Value) (h : xH) (v : Option Value) (h1 : xH) : Prop := Ct G d 0 0 y cc nL ret av h (fun v' h' => v' = v ∧ h' = h1)
/-- the end of such a method -/
abbrev xZd (G : xG) (v : Option Value) (h1 : xH) : xZ := xZm G 0 0 (fun v' h' => v' = v ∧ h' = h1)
section XD
variable {G : xG} {own : String} {cc : ByteArray} {nL : Nat} {nm : String} {ret : Option FieldType} {R : Room} {Z : xZ} {kc ks pc : Nat} {L : List (Nat × Value)} {st : List Value} {h : xH}
variable {d nL' idx a : Nat} {y : MethodName} {cc' : ByteArray} {ret' : Option FieldType}
theorem x_cV0i {ci : Nat} {fs : List Value} {r : Int32} {h1 : xH} (hd : decode cc pc = .ok (.invokevirtual idx, 3)) (hlk : Cond.methodLink own idx y ∈ xW) (hy : xMv y cc' nL' ret' 0) (hM : hAt h a = some (.inr (ci, fs))) (hci : vwCl[ci]?.map (fun q => q.1) = some y.cls) (hct : Cd G d y cc' nL' ret' (.ref a :: []) h (some (.int r)) h1) (hR : (Nat.ble (d + 1) R.frames && Nat.ble (8 + (nL' + 11) + 39 * d) R.locals) = true) (hcs : (Nat.ble kc R.cells && Nat.ble ks R.slots) = true) (hsm : Nat.ble (st.map fun v => v.category).sum 8 = true) (kk : Wp G own cc nL nm ret R Z kc ks (pc + 3) L (.int r :: st) h1) : Wp G own cc nL nm ret R Z kc ks pc L (.ref a :: st) h :=
  x_callV (As := []) (rest := st) (mc := 0) (ms := 0) hd hlk hy hM hci (by rfl) hR hcs hsm rfl hct (fun v h2 hq => by obtain ⟨e1, e2⟩ := hq; subst e1; subst e2; exact kk)
theorem x_cV0l {ci : Nat} {fs : List Value} {r : Int64} {h1 : xH} (hd : decode cc pc = .ok (.invokevirtual idx, 3)) (hlk : Cond.methodLink own idx y ∈ xW) (hy : xMv y cc' nL' ret' 0) (hM : hAt h a = some (.inr (ci, fs))) (hci : vwCl[ci]?.map (fun q => q.1) = some y.cls) (hct : Cd G d y cc' nL' ret' (.ref a :: []) h (some (.long r)) h1) (hR : (Nat.ble (d + 1) R.frames && Nat.ble (8 + (nL' + 11) + 39 * d) R.locals) = true) (hcs : (Nat.ble kc R.cells && Nat.ble ks R.slots) = true) (hsm : Nat.ble (st.map fun v => v.category).sum 8 = true) (kk : Wp G own cc nL nm ret R Z kc ks (pc + 3) L (.long r :: st) h1) : Wp G own cc nL nm ret R Z kc ks pc L (.ref a :: st) h :=
  x_callV (As := []) (rest := st) (mc := 0) (ms := 0) hd hlk hy hM hci (by rfl) hR hcs hsm rfl hct (fun v h2 hq => by obtain ⟨e1, e2⟩ := hq; subst e1; subst e2; exact kk)
theorem x_cV0v {ci : Nat} {fs : List Value} {h1 : xH} (hd : decode cc pc = .ok (.invokevirtual idx, 3)) (hlk : Cond.methodLink own idx y ∈ xW) (hy : xMv y cc' nL' ret' 0) (hM : hAt h a = some (.inr (ci, fs))) (hci : vwCl[ci]?.map (fun q => q.1) = some y.cls) (hct : Cd G d y cc' nL' ret' (.ref a :: []) h none h1) (hR : (Nat.ble (d + 1) R.frames && Nat.ble (8 + (nL' + 11) + 39 * d) R.locals) = true) (hcs : (Nat.ble kc R.cells && Nat.ble ks R.slots) = true) (hsm : Nat.ble (st.map fun v => v.category).sum 8 = true) (kk : Wp G own cc nL nm ret R Z kc ks (pc + 3) L (st) h1) : Wp G own cc nL nm ret R Z kc ks pc L (.ref a :: st) h :=
  x_callV (As := []) (rest := st) (mc := 0) (ms := 0) hd hlk hy hM hci (by rfl) hR hcs hsm rfl hct (fun v h2 hq => by obtain ⟨e1, e2⟩ := hq; subst e1; subst e2; exact kk)
theorem x_cV1i {ci : Nat} {fs : List Value} {x1 : Value} {r : Int32} {h1 : xH} (hd : decode cc pc = .ok (.invokevirtual idx, 3)) (hlk : Cond.methodLink own idx y ∈ xW) (hy : xMv y cc' nL' ret' 1) (hM : hAt h a = some (.inr (ci, fs))) (hci : vwCl[ci]?.map (fun q => q.1) = some y.cls) (hct : Cd G d y cc' nL' ret' (.ref a :: [x1]) h (some (.int r)) h1) (hR : (Nat.ble (d + 1) R.frames && Nat.ble (8 + (nL' + 11) + 39 * d) R.locals) = true) (hcs : (Nat.ble kc R.cells && Nat.ble ks R.slots) = true) (hsm : Nat.ble (st.map fun v => v.category).sum 8 = true) (kk : Wp G own cc nL nm ret R Z kc ks (pc + 3) L (.int r :: st) h1) : Wp G own cc nL nm ret R Z kc ks pc L (x1 :: .ref a :: st) h :=
  x_callV (As := [x1]) (rest := st) (mc := 0) (ms := 0) hd hlk hy hM hci (by rfl) hR hcs hsm rfl hct (fun v h2 hq => by obtain ⟨e1, e2⟩ := hq; subst e1; subst e2; exact kk)
theorem x_cV1v {ci : Nat} {fs : List Value} {x1 : Value} {h1 : xH} (hd : decode cc pc = .ok (.invokevirtual idx, 3)) (hlk : Cond.methodLink own idx y ∈ xW) (hy : xMv y cc' nL' ret' 1) (hM : hAt h a = some (.inr (ci, fs))) (hci : vwCl[ci]?.map (fun q => q.1) = some y.cls) (hct : Cd G d y cc' nL' ret' (.ref a :: [x1]) h none h1) (hR : (Nat.ble (d + 1) R.frames && Nat.ble (8 + (nL' + 11) + 39 * d) R.locals) = true) (hcs : (Nat.ble kc R.cells && Nat.ble ks R.slots) = true) (hsm : Nat.ble (st.map fun v => v.category).sum 8 = true) (kk : Wp G own cc nL nm ret R Z kc ks (pc + 3) L (st) h1) : Wp G own cc nL nm ret R Z kc ks pc L (x1 :: .ref a :: st) h :=
  x_callV (As := [x1]) (rest := st) (mc := 0) (ms := 0) hd hlk hy hM hci (by rfl) hR hcs hsm rfl hct (fun v h2 hq => by obtain ⟨e1, e2⟩ := hq; subst e1; subst e2; exact kk)
theorem x_cV2i {ci : Nat} {fs : List Value} {x1 x2 : Value} {r : Int32} {h1 : xH} (hd : decode cc pc = .ok (.invokevirtual idx, 3)) (hlk : Cond.methodLink own idx y ∈ xW) (hy : xMv y cc' nL' ret' 2) (hM : hAt h a = some (.inr (ci, fs))) (hci : vwCl[ci]?.map (fun q => q.1) = some y.cls) (hct : Cd G d y cc' nL' ret' (.ref a :: [x1, x2]) h (some (.int r)) h1) (hR : (Nat.ble (d + 1) R.frames && Nat.ble (8 + (nL' + 11) + 39 * d) R.locals) = true) (hcs : (Nat.ble kc R.cells && Nat.ble ks R.slots) = true) (hsm : Nat.ble (st.map fun v => v.category).sum 8 = true) (kk : Wp G own cc nL nm ret R Z kc ks (pc + 3) L (.int r :: st) h1) : Wp G own cc nL nm ret R Z kc ks pc L (x2 :: x1 :: .ref a :: st) h :=
  x_callV (As := [x1, x2]) (rest := st) (mc := 0) (ms := 0) hd hlk hy hM hci (by rfl) hR hcs hsm rfl hct (fun v h2 hq => by obtain ⟨e1, e2⟩ := hq; subst e1; subst e2; exact kk)
theorem x_cV2v {ci : Nat} {fs : List Value} {x1 x2 : Value} {h1 : xH} (hd : decode cc pc = .ok (.invokevirtual idx, 3)) (hlk : Cond.methodLink own idx y ∈ xW) (hy : xMv y cc' nL' ret' 2) (hM : hAt h a = some (.inr (ci, fs))) (hci : vwCl[ci]?.map (fun q => q.1) = some y.cls) (hct : Cd G d y cc' nL' ret' (.ref a :: [x1, x2]) h none h1) (hR : (Nat.ble (d + 1) R.frames && Nat.ble (8 + (nL' + 11) + 39 * d) R.locals) = true) (hcs : (Nat.ble kc R.cells && Nat.ble ks R.slots) = true) (hsm : Nat.ble (st.map fun v => v.category).sum 8 = true) (kk : Wp G own cc nL nm ret R Z kc ks (pc + 3) L (st) h1) : Wp G own cc nL nm ret R Z kc ks pc L (x2 :: x1 :: .ref a :: st) h :=
  x_callV (As := [x1, x2]) (rest := st) (mc := 0) (ms := 0) hd hlk hy hM hci (by rfl) hR hcs hsm rfl hct (fun v h2 hq => by obtain ⟨e1, e2⟩ := hq; subst e1; subst e2; exact kk)
theorem x_cV3i {ci : Nat} {fs : List Value} {x1 x2 x3 : Value} {r : Int32} {h1 : xH} (hd : decode cc pc = .ok (.invokevirtual idx, 3)) (hlk : Cond.methodLink own idx y ∈ xW) (hy : xMv y cc' nL' ret' 3) (hM : hAt h a = some (.inr (ci, fs))) (hci : vwCl[ci]?.map (fun q => q.1) = some y.cls) (hct : Cd G d y cc' nL' ret' (.ref a :: [x1, x2, x3]) h (some (.int r)) h1) (hR : (Nat.ble (d + 1) R.frames && Nat.ble (8 + (nL' + 11) + 39 * d) R.locals) = true) (hcs : (Nat.ble kc R.cells && Nat.ble ks R.slots) = true) (hsm : Nat.ble (st.map fun v => v.category).sum 8 = true) (kk : Wp G own cc nL nm ret R Z kc ks (pc + 3) L (.int r :: st) h1) : Wp G own cc nL nm ret R Z kc ks pc L (x3 :: x2 :: x1 :: .ref a :: st) h :=
  x_callV (As := [x1, x2, x3]) (rest := st) (mc := 0) (ms := 0) hd hlk hy hM hci (by rfl) hR hcs hsm rfl hct (fun v h2 hq => by obtain ⟨e1, e2⟩ := hq; subst e1; subst e2; exact kk)
theorem x_cV3v {ci : Nat} {fs : List Value} {x1 x2 x3 : Value} {h1 : xH} (hd : decode cc pc = .ok (.invokevirtual idx, 3)) (hlk : Cond.methodLink own idx y ∈ xW) (hy : xMv y cc' nL' ret' 3) (hM : hAt h a = some (.inr (ci, fs))) (hci : vwCl[ci]?.map (fun q => q.1) = some y.cls) (hct : Cd G d y cc' nL' ret' (.ref a :: [x1, x2, x3]) h none h1) (hR : (Nat.ble (d + 1) R.frames && Nat.ble (8 + (nL' + 11) + 39 * d) R.locals) = true) (hcs : (Nat.ble kc R.cells && Nat.ble ks R.slots) = true) (hsm : Nat.ble (st.map fun v => v.category).sum 8 = true) (kk : Wp G own cc nL nm ret R Z kc ks (pc + 3) L (st) h1) : Wp G own cc nL nm ret R Z kc ks pc L (x3 :: x2 :: x1 :: .ref a :: st) h :=
  x_callV (As := [x1, x2, x3]) (rest := st) (mc := 0) (ms := 0) hd hlk hy hM hci (by rfl) hR hcs hsm rfl hct (fun v h2 hq => by obtain ⟨e1, e2⟩ := hq; subst e1; subst e2; exact kk)
theorem x_cV4i {ci : Nat} {fs : List Value} {x1 x2 x3 x4 : Value} {r : Int32} {h1 : xH} (hd : decode cc pc = .ok (.invokevirtual idx, 3)) (hlk : Cond.methodLink own idx y ∈ xW) (hy : xMv y cc' nL' ret' 4) (hM : hAt h a = some (.inr (ci, fs))) (hci : vwCl[ci]?.map (fun q => q.1) = some y.cls) (hct : Cd G d y cc' nL' ret' (.ref a :: [x1, x2, x3, x4]) h (some (.int r)) h1) (hR : (Nat.ble (d + 1) R.frames && Nat.ble (8 + (nL' + 11) + 39 * d) R.locals) = true) (hcs : (Nat.ble kc R.cells && Nat.ble ks R.slots) = true) (hsm : Nat.ble (st.map fun v => v.category).sum 8 = true) (kk : Wp G own cc nL nm ret R Z kc ks (pc + 3) L (.int r :: st) h1) : Wp G own cc nL nm ret R Z kc ks pc L (x4 :: x3 :: x2 :: x1 :: .ref a :: st) h :=
  x_callV (As := [x1, x2, x3, x4]) (rest := st) (mc := 0) (ms := 0) hd hlk hy hM hci (by rfl) hR hcs hsm rfl hct (fun v h2 hq => by obtain ⟨e1, e2⟩ := hq; subst e1; subst e2; exact kk)
theorem x_cV4v {ci : Nat} {fs : List Value} {x1 x2 x3 x4 : Value} {h1 : xH} (hd : decode cc pc = .ok (.invokevirtual idx, 3)) (hlk : Cond.methodLink own idx y ∈ xW) (hy : xMv y cc' nL' ret' 4) (hM : hAt h a = some (.inr (ci, fs))) (hci : vwCl[ci]?.map (fun q => q.1) = some y.cls) (hct : Cd G d y cc' nL' ret' (.ref a :: [x1, x2, x3, x4]) h none h1) (hR : (Nat.ble (d + 1) R.frames && Nat.ble (8 + (nL' + 11) + 39 * d) R.locals) = true) (hcs : (Nat.ble kc R.cells && Nat.ble ks R.slots) = true) (hsm : Nat.ble (st.map fun v => v.category).sum 8 = true) (kk : Wp G own cc nL nm ret R Z kc ks (pc + 3) L (st) h1) : Wp G own cc nL nm ret R Z kc ks pc L (x4 :: x3 :: x2 :: x1 :: .ref a :: st) h :=
  x_callV (As := [x1, x2, x3, x4]) (rest := st) (mc := 0) (ms := 0) hd hlk hy hM hci (by rfl) hR hcs hsm rfl hct (fun v h2 hq => by obtain ⟨e1, e2⟩ := hq; subst e1; subst e2; exact kk)
theorem x_cS0i {r : Int32} {h1 : xH} (hd : decode cc pc = .ok (.invokestatic idx, 3)) (hlk : Cond.methodLink own idx y ∈ xW) (hy : xMs y cc' nL' ret' 0) (hct : Cd G d y cc' nL' ret' ([]) h (some (.int r)) h1) (hR : (Nat.ble (d + 1) R.frames && Nat.ble (8 + (nL' + 11) + 39 * d) R.locals) = true) (hcs : (Nat.ble kc R.cells && Nat.ble ks R.slots) = true) (hsm : Nat.ble (st.map fun v => v.category).sum 8 = true) (kk : Wp G own cc nL nm ret R Z kc ks (pc + 3) L (.int r :: st) h1) : Wp G own cc nL nm ret R Z kc ks pc L (st) h :=
  x_callS (As := []) (rest := st) (mc := 0) (ms := 0) hd hlk hy (by rfl) hR hcs hsm rfl hct (fun v h2 hq => by obtain ⟨e1, e2⟩ := hq; subst e1; subst e2; exact kk)
theorem x_cS0l {r : Int64} {h1 : xH} (hd : decode cc pc = .ok (.invokestatic idx, 3)) (hlk : Cond.methodLink own idx y ∈ xW) (hy : xMs y cc' nL' ret' 0) (hct : Cd G d y cc' nL' ret' ([]) h (some (.long r)) h1) (hR : (Nat.ble (d + 1) R.frames && Nat.ble (8 + (nL' + 11) + 39 * d) R.locals) = true) (hcs : (Nat.ble kc R.cells && Nat.ble ks R.slots) = true) (hsm : Nat.ble (st.map fun v => v.category).sum 8 = true) (kk : Wp G own cc nL nm ret R Z kc ks (pc + 3) L (.long r :: st) h1) : Wp G own cc nL nm ret R Z kc ks pc L (st) h :=
  x_callS (As := []) (rest := st) (mc := 0) (ms := 0) hd hlk hy (by rfl) hR hcs hsm rfl hct (fun v h2 hq => by obtain ⟨e1, e2⟩ := hq; subst e1; subst e2; exact kk)
theorem x_cS0v {h1 : xH} (hd : decode cc pc = .ok (.invokestatic idx, 3)) (hlk : Cond.methodLink own idx y ∈ xW) (hy : xMs y cc' nL' ret' 0) (hct : Cd G d y cc' nL' ret' ([]) h none h1) (hR : (Nat.ble (d + 1) R.frames && Nat.ble (8 + (nL' + 11) + 39 * d) R.locals) = true) (hcs : (Nat.ble kc R.cells && Nat.ble ks R.slots) = true) (hsm : Nat.ble (st.map fun v => v.category).sum 8 = true) (kk : Wp G own cc nL nm ret R Z kc ks (pc + 3) L (st) h1) : Wp G own cc nL nm ret R Z kc ks pc L (st) h :=
  x_callS (As := []) (rest := st) (mc := 0) (ms := 0) hd hlk hy (by rfl) hR hcs hsm rfl hct (fun v h2 hq => by obtain ⟨e1, e2⟩ := hq; subst e1; subst e2; exact kk)
theorem x_cS1i {x1 : Value} {r : Int32} {h1 : xH} (hd : decode cc pc = .ok (.invokestatic idx, 3)) (hlk : Cond.methodLink own idx y ∈ xW) (hy : xMs y cc' nL' ret' 1) (hct : Cd G d y cc' nL' ret' ([x1]) h (some (.int r)) h1) (hR : (Nat.ble (d + 1) R.frames && Nat.ble (8 + (nL' + 11) + 39 * d) R.locals) = true) (hcs : (Nat.ble kc R.cells && Nat.ble ks R.slots) = true) (hsm : Nat.ble (st.map fun v => v.category).sum 8 = true) (kk : Wp G own cc nL nm ret R Z kc ks (pc + 3) L (.int r :: st) h1) : Wp G own cc nL nm ret R Z kc ks pc L (x1 :: st) h :=
  x_callS (As := [x1]) (rest := st) (mc := 0) (ms := 0) hd hlk hy (by rfl) hR hcs hsm rfl hct (fun v h2 hq => by obtain ⟨e1, e2⟩ := hq; subst e1; subst e2; exact kk)
theorem x_cS1v {x1 : Value} {h1 : xH} (hd : decode cc pc = .ok (.invokestatic idx, 3)) (hlk : Cond.methodLink own idx y ∈ xW) (hy : xMs y cc' nL' ret' 1) (hct : Cd G d y cc' nL' ret' ([x1]) h none h1) (hR : (Nat.ble (d + 1) R.frames && Nat.ble (8 + (nL' + 11) + 39 * d) R.locals) = true) (hcs : (Nat.ble kc R.cells && Nat.ble ks R.slots) = true) (hsm : Nat.ble (st.map fun v => v.category).sum 8 = true) (kk : Wp G own cc nL nm ret R Z kc ks (pc + 3) L (st) h1) : Wp G own cc nL nm ret R Z kc ks pc L (x1 :: st) h :=
  x_callS (As := [x1]) (rest := st) (mc := 0) (ms := 0) hd hlk hy (by rfl) hR hcs hsm rfl hct (fun v h2 hq => by obtain ⟨e1, e2⟩ := hq; subst e1; subst e2; exact kk)
theorem x_cS2i {x1 x2 : Value} {r : Int32} {h1 : xH} (hd : decode cc pc = .ok (.invokestatic idx, 3)) (hlk : Cond.methodLink own idx y ∈ xW) (hy : xMs y cc' nL' ret' 2) (hct : Cd G d y cc' nL' ret' ([x1, x2]) h (some (.int r)) h1) (hR : (Nat.ble (d + 1) R.frames && Nat.ble (8 + (nL' + 11) + 39 * d) R.locals) = true) (hcs : (Nat.ble kc R.cells && Nat.ble ks R.slots) = true) (hsm : Nat.ble (st.map fun v => v.category).sum 8 = true) (kk : Wp G own cc nL nm ret R Z kc ks (pc + 3) L (.int r :: st) h1) : Wp G own cc nL nm ret R Z kc ks pc L (x2 :: x1 :: st) h :=
  x_callS (As := [x1, x2]) (rest := st) (mc := 0) (ms := 0) hd hlk hy (by rfl) hR hcs hsm rfl hct (fun v h2 hq => by obtain ⟨e1, e2⟩ := hq; subst e1; subst e2; exact kk)
theorem x_cS2v {x1 x2 : Value} {h1 : xH} (hd : decode cc pc = .ok (.invokestatic idx, 3)) (hlk : Cond.methodLink own idx y ∈ xW) (hy : xMs y cc' nL' ret' 2) (hct : Cd G d y cc' nL' ret' ([x1, x2]) h none h1) (hR : (Nat.ble (d + 1) R.frames && Nat.ble (8 + (nL' + 11) + 39 * d) R.locals) = true) (hcs : (Nat.ble kc R.cells && Nat.ble ks R.slots) = true) (hsm : Nat.ble (st.map fun v => v.category).sum 8 = true) (kk : Wp G own cc nL nm ret R Z kc ks (pc + 3) L (st) h1) : Wp G own cc nL nm ret R Z kc ks pc L (x2 :: x1 :: st) h :=
  x_callS (As := [x1, x2]) (rest := st) (mc := 0) (ms := 0) hd hlk hy (by rfl) hR hcs hsm rfl hct (fun v h2 hq => by obtain ⟨e1, e2⟩ := hq; subst e1; subst e2; exact kk)
theorem x_cS3i {x1 x2 x3 : Value} {r : Int32} {h1 : xH} (hd : decode cc pc = .ok (.invokestatic idx, 3)) (hlk : Cond.methodLink own idx y ∈ xW) (hy : xMs y cc' nL' ret' 3) (hct : Cd G d y cc' nL' ret' ([x1, x2, x3]) h (some (.int r)) h1) (hR : (Nat.ble (d + 1) R.frames && Nat.ble (8 + (nL' + 11) + 39 * d) R.locals) = true) (hcs : (Nat.ble kc R.cells && Nat.ble ks R.slots) = true) (hsm : Nat.ble (st.map fun v => v.category).sum 8 = true) (kk : Wp G own cc nL nm ret R Z kc ks (pc + 3) L (.int r :: st) h1) : Wp G own cc nL nm ret R Z kc ks pc L (x3 :: x2 :: x1 :: st) h :=
  x_callS (As := [x1, x2, x3]) (rest := st) (mc := 0) (ms := 0) hd hlk hy (by rfl) hR hcs hsm rfl hct (fun v h2 hq => by obtain ⟨e1, e2⟩ := hq; subst e1; subst e2; exact kk)
theorem x_cS3v {x1 x2 x3 : Value} {h1 : xH} (hd : decode cc pc = .ok (.invokestatic idx, 3)) (hlk : Cond.methodLink own idx y ∈ xW) (hy : xMs y cc' nL' ret' 3) (hct : Cd G d y cc' nL' ret' ([x1, x2, x3]) h none h1) (hR : (Nat.ble (d + 1) R.frames && Nat.ble (8 + (nL' + 11) + 39 * d) R.locals) = true) (hcs : (Nat.ble kc R.cells && Nat.ble ks R.slots) = true) (hsm : Nat.ble (st.map fun v => v.category).sum 8 = true) (kk : Wp G own cc nL nm ret R Z kc ks (pc + 3) L (st) h1) : Wp G own cc nL nm ret R Z kc ks pc L (x3 :: x2 :: x1 :: st) h :=
  x_callS (As := [x1, x2, x3]) (rest := st) (mc := 0) (ms := 0) hd hlk hy (by rfl) hR hcs hsm rfl hct (fun v h2 hq => by obtain ⟨e1, e2⟩ := hq; subst e1; subst e2; exact kk)
theorem x_cS4i {x1 x2 x3 x4 : Value} {r : Int32} {h1 : xH} (hd : decode cc pc = .ok (.invokestatic idx, 3)) (hlk : Cond.methodLink own idx y ∈ xW) (hy : xMs y cc' nL' ret' 4) (hct : Cd G d y cc' nL' ret' ([x1, x2, x3, x4]) h (some (.int r)) h1) (hR : (Nat.ble (d + 1) R.frames && Nat.ble (8 + (nL' + 11) + 39 * d) R.locals) = true) (hcs : (Nat.ble kc R.cells && Nat.ble ks R.slots) = true) (hsm : Nat.ble (st.map fun v => v.category).sum 8 = true) (kk : Wp G own cc nL nm ret R Z kc ks (pc + 3) L (.int r :: st) h1) : Wp G own cc nL nm ret R Z kc ks pc L (x4 :: x3 :: x2 :: x1 :: st) h :=
  x_callS (As := [x1, x2, x3, x4]) (rest := st) (mc := 0) (ms := 0) hd hlk hy (by rfl) hR hcs hsm rfl hct (fun v h2 hq => by obtain ⟨e1, e2⟩ := hq; subst e1; subst e2; exact kk)
theorem x_cS4v {x1 x2 x3 x4 : Value} {h1 : xH} (hd : decode cc pc = .ok (.invokestatic idx, 3)) (hlk : Cond.methodLink own idx y ∈ xW) (hy : xMs y cc' nL' ret' 4) (hct : Cd G d y cc' nL' ret' ([x1, x2, x3, x4]) h none h1) (hR : (Nat.ble (d + 1) R.frames && Nat.ble (8 + (nL' + 11) + 39 * d) R.locals) = true) (hcs : (Nat.ble kc R.cells && Nat.ble ks R.slots) = true) (hsm : Nat.ble (st.map fun v => v.category).sum 8 = true) (kk : Wp G own cc nL nm ret R Z kc ks (pc + 3) L (st) h1) : Wp G own cc nL nm ret R Z kc ks pc L (x4 :: x3 :: x2 :: x1 :: st) h :=
  x_callS (As := [x1, x2, x3, x4]) (rest := st) (mc := 0) (ms := 0) hd hlk hy (by rfl) hR hcs hsm rfl hct (fun v h2 hq => by obtain ⟨e1, e2⟩ := hq; subst e1; subst e2; exact kk)
theorem x_cN3i {host : String} {x1 x2 x3 : Value} {r : Int32} {h1 : xH} (hd : decode cc pc = .ok (.invokestatic idx, 3)) (hlk : Cond.methodLinkNest own idx y host ∈ xNest) (hy : xMs y cc' nL' ret' 3) (hct : Cd G d y cc' nL' ret' ([x1, x2, x3]) h (some (.int r)) h1) (hR : (Nat.ble (d + 1) R.frames && Nat.ble (8 + (nL' + 11) + 39 * d) R.locals) = true) (hcs : (Nat.ble kc R.cells && Nat.ble ks R.slots) = true) (hsm : Nat.ble (st.map fun v => v.category).sum 8 = true) (kk : Wp G own cc nL nm ret R Z kc ks (pc + 3) L (.int r :: st) h1) : Wp G own cc nL nm ret R Z kc ks pc L (x3 :: x2 :: x1 :: st) h :=
  x_callSN (As := [x1, x2, x3]) (rest := st) (mc := 0) (ms := 0) hd hlk hy (by rfl) hR hcs hsm rfl hct (fun v h2 hq => by obtain ⟨e1, e2⟩ := hq; subst e1; subst e2; exact kk)
theorem x_cN3v {host : String} {x1 x2 x3 : Value} {h1 : xH} (hd : decode cc pc = .ok (.invokestatic idx, 3)) (hlk : Cond.methodLinkNest own idx y host ∈ xNest) (hy : xMs y cc' nL' ret' 3) (hct : Cd G d y cc' nL' ret' ([x1, x2, x3]) h none h1) (hR : (Nat.ble (d + 1) R.frames && Nat.ble (8 + (nL' + 11) + 39 * d) R.locals) = true) (hcs : (Nat.ble kc R.cells && Nat.ble ks R.slots) = true) (hsm : Nat.ble (st.map fun v => v.category).sum 8 = true) (kk : Wp G own cc nL nm ret R Z kc ks (pc + 3) L (st) h1) : Wp G own cc nL nm ret R Z kc ks pc L (x3 :: x2 :: x1 :: st) h :=
  x_callSN (As := [x1, x2, x3]) (rest := st) (mc := 0) (ms := 0) hd hlk hy (by rfl) hR hcs hsm rfl hct (fun v h2 hq => by obtain ⟨e1, e2⟩ := hq; subst e1; subst e2; exact kk)
end XD
section XJ
variable {G : xG} {own : String} {cc : ByteArray} {nL : Nat} {nm : String} {ret : Option FieldType} {R : Room} {Z : xZ} {kc ks pc : Nat} {L : List (Nat × Value)} {st : List Value} {h : xH}
theorem x_mrg {pc' : Nat} {L' : List (Nat × Value)} {st' : List Value} {h' : xH} (f : Wp G own cc nL nm ret R Z kc ks pc' L' st' h' → Wp G own cc nL nm ret R Z kc ks pc L st h) (kk : Wp G own cc nL nm ret R Z kc ks pc' L' st' h') : Wp G own cc nL nm ret R Z kc ks pc L st h := f kk
theorem Wp.sub {L' : List (Nat × Value)} (is : List Nat) (e : lv_pick L is = L') (kk : Wp G own cc nL nm ret R Z kc ks pc L' st h) : Wp G own cc nL nm ret R Z kc ks pc L st h := by
  intro p e2 s m args below meth c H locs ls C hH hS hl
  exact kk p e2 s m args below meth c H locs ls C hH hS (lv_sub hl is e)
end XJ
theorem hne_k {h : xH} {a b : Nat} {e0 e1 : gE} (ha : hAt h a = some e0) (hb : hAt h b = some e1) (hk : Nat.beq (gk e0) (gk e1) = false) : a ≠ b := fun z => by
  rw [z, hb] at ha
  have := Option.some.inj ha
  rw [this] at hk
  exact absurd (Nat.beq_refl _) (by rw [hk]; decide)
/-- a cell that was put once more, behind others -/
theorem hSet_sw1 {h : xH} {a b : Nat} {e1 e2 e3 : gE} (hab : a ≠ b) : hSet (hSet (hSet h a e1) b e2) a e3 = hSet (hSet h a e3) b e2 := by
  rw [hSet_comm (Ne.symm hab), hSet_set]
theorem hSet_sw2 {h : xH} {a b c : Nat} {e1 e2 e3 e4 : gE} (hab : a ≠ b) (hac : a ≠ c) : hSet (hSet (hSet (hSet h a e1) b e2) c e3) a e4 = hSet (hSet (hSet h a e4) b e2) c e3 := by
  rw [hSet_comm (Ne.symm hac), hSet_sw1 hab]
theorem hSet_sw3 {h : xH} {a b c d : Nat} {e1 e2 e3 e4 e5 : gE} (hab : a ≠ b) (hac : a ≠ c) (had : a ≠ d) : hSet (hSet (hSet (hSet (hSet h a e1) b e2) c e3) d e4) a e5 = hSet (hSet (hSet (hSet h a e5) b e2) c e3) d e4 := by
  rw [hSet_comm (Ne.symm had), hSet_sw2 hab hac]
theorem xneL {x k : Int32} {z : Int} (c : ¬ x = k) (hk : k.toInt = z) : x.toInt ≠ z := fun q => c (Int32.toInt_inj.mp (q.trans hk.symm))
/-- the fuel of every loop: none needs as much -/
def xK : Nat := 3000
/-! the cells of the two systems; w, r, t, m: the numbers of an object by their places -/
abbrev ruC (r : Nat → Int32) : gE := .inr (1, [.int (r 0), .int (r 1), .int (r 2), .int (r 3), .int (r 4)])
abbrev waC (la ka : Nat) (w : Nat → Int32) : gE := .inr (3, [.int (w 24), .int (w 11), .ref la, .ref ka, .int (w 10), .int (w 0), .int (w 1), .int (w 2), .int (w 3), .int (w 4), .int (w 5), .int (w 6), .int (w 7), .int (w 8), .int (w 9)])
abbrev txC (ca : Nat) (t : Nat → Int32) : gE := .inr (2, [.ref ca, .int (t 0), .int (t 1)])
abbrev ntC (ru wy : Nat) (t : Nat → Int32) : gE := .inr (0, [.ref ru, .ref wy, .int (t 0), .int (t 1)])
abbrev gpC (tx ne dr ea tr tu : Nat) (t : Nat → Int32) : gE := .inr (4, [.ref tx, .ref ne, .ref dr, .ref ea, .int (t 0), .int (t 1), .ref tr, .ref tu])
abbrev moC (nw rd sd pa xt : Nat) (m : Nat → Int32) : gE := .inr (5, [.ref nw, .ref rd, .ref sd, .ref pa, .int (m 0), .ref xt, .int (m 1), .int (m 2), .int (m 3), .int (m 4)])
abbrev arI (n : Nat) (f : Nat → Int32) : gE := .inl (0, n, .inl f)
abbrev arC (n : Nat) (f : Nat → Int32) : gE := .inl (1, n, .inl f)
abbrev arR (t n : Nat) (f : Nat → Option Nat) : gE := .inl (t, n, .inr (.inr (.inr (.inr f))))
/-- a truth value -/
def xB (v : Int32) : Prop := v = 0 ∨ v = 1
theorem xB0 : xB 0 := Or.inl rfl
theorem xB1 : xB 1 := Or.inr rfl
theorem xB_ite {c : Prop} [Decidable c] {a b : Int32} (ha : xB a) (hb : xB b) : xB (if c then a else b) := by split <;> assumption
theorem xB_ite1 {c : Prop} [Decidable c] {α : Type} {a b : Int32 × α} (ha : xB a.1) (hb : xB b.1) : xB (if c then a else b).1 := by split <;> assumption
theorem xb_nar {v : Int32} (hv : xB v) : narrow .boolean (.int v) = .int v := by rcases hv with rfl | rfl <;> rfl
theorem xb_fit {v : Int32} (hv : xB v) : fits .boolean (.int v) = true := by rcases hv with rfl | rfl <;> rfl
theorem xB_fst {α : Type} {a : Int32} {b : α} (ha : xB a) : xB (a, b).1 := ha
end
section
def f_X1_clear (r : Nat → Int32) : (Nat → Int32) := (upd (upd (upd (upd (upd r 0 (60 : Int32)) 1 (900 : Int32)) 2 (20 : Int32)) 3 (1 : Int32)) 4 (0 : Int32))
set_option maxRecDepth 100000 in
set_option maxHeartbeats 4000000 in
theorem C_X1_clear (G : xG) (h : xH) (rr : Nat) (r : Nat → Int32) (k_rr : hAt h rr = some (ruC r)) : Cd G 0 yX1_clear cX1_clear 1 none [.ref rr] h none (hSet h rr (ruC (f_X1_clear r))) := by
  refine Ct.of (by decide) (by rfl) ?_
  refine Wp.eqs (L' := [(0, .ref rr)]) (st' := []) rfl rfl ?_
  refine Wp.eqh (h' := (hSet h rr (ruC r))) (by rw [hSet_self k_rr]) ?_
  obtain ⟨R, er⟩ : ∃ R, R = f_X1_clear r := ⟨_, rfl⟩
  rw [← er]
  unfold f_X1_clear at er
  refine x_aload_n (pc := 0) dX1_clear_0 rfl ?_
  refine x_bipush (pc := 1) (v := (60 : Int32)) dX1_clear_1 (by decide) ?_
  refine x_putf (pc := 3) (e' := ruC (upd r 0 (60 : Int32))) dX1_clear_3 xf_X1_9 hAt_same rfl rfl rfl rfl ?_
  refine Wp.eqh (h' := (hSet h rr (ruC (upd r 0 (60 : Int32))))) (hSet_set) ?_
  refine x_aload_n (pc := 6) dX1_clear_6 rfl ?_
  refine x_sipush (pc := 7) (v := (900 : Int32)) dX1_clear_7 (by decide) ?_
  refine x_putf (pc := 10) (e' := ruC (upd (upd r 0 (60 : Int32)) 1 (900 : Int32))) dX1_clear_10 xf_X1_15 hAt_same rfl rfl rfl rfl ?_
  refine Wp.eqh (h' := (hSet h rr (ruC (upd (upd r 0 (60 : Int32)) 1 (900 : Int32))))) (hSet_set) ?_
  refine x_aload_n (pc := 13) dX1_clear_13 rfl ?_
  refine x_bipush (pc := 14) (v := (20 : Int32)) dX1_clear_14 (by decide) ?_
  refine x_putf (pc := 16) (e' := ruC (upd (upd (upd r 0 (60 : Int32)) 1 (900 : Int32)) 2 (20 : Int32))) dX1_clear_16 xf_X1_18 hAt_same rfl rfl rfl rfl ?_
  refine Wp.eqh (h' := (hSet h rr (ruC (upd (upd (upd r 0 (60 : Int32)) 1 (900 : Int32)) 2 (20 : Int32))))) (hSet_set) ?_
  refine x_aload_n (pc := 19) dX1_clear_19 rfl ?_
  refine x_iconst (pc := 20) (v := (1 : Int32)) dX1_clear_20 (by decide) ?_
  refine x_putf (pc := 21) (e' := ruC (upd (upd (upd (upd r 0 (60 : Int32)) 1 (900 : Int32)) 2 (20 : Int32)) 3 (1 : Int32))) dX1_clear_21 xf_X1_21 hAt_same rfl rfl rfl rfl ?_
  refine Wp.eqh (h' := (hSet h rr (ruC (upd (upd (upd (upd r 0 (60 : Int32)) 1 (900 : Int32)) 2 (20 : Int32)) 3 (1 : Int32))))) (hSet_set) ?_
  refine x_aload_n (pc := 24) dX1_clear_24 rfl ?_
  refine x_iconst (pc := 25) (v := (0 : Int32)) dX1_clear_25 (by decide) ?_
  refine x_putf (pc := 26) (e' := ruC (upd (upd (upd (upd (upd r 0 (60 : Int32)) 1 (900 : Int32)) 2 (20 : Int32)) 3 (1 : Int32)) 4 (0 : Int32))) dX1_clear_26 xf_X1_24 hAt_same rfl rfl rfl rfl ?_
  refine Wp.eqh (h' := (hSet h rr (ruC (upd (upd (upd (upd (upd r 0 (60 : Int32)) 1 (900 : Int32)) 2 (20 : Int32)) 3 (1 : Int32)) 4 (0 : Int32))))) (hSet_set) ?_
  subst er
  exact x_vret (pc := 29) dX1_clear_29 rfl rfl rfl ⟨rfl, rfl⟩

def f_X1_copy (r ro_ : Nat → Int32) : (Nat → Int32) := (upd (upd (upd (upd (upd r 0 (ro_ 0)) 1 (ro_ 1)) 2 (ro_ 2)) 3 (ro_ 3)) 4 (ro_ 4))
set_option maxRecDepth 100000 in
set_option maxHeartbeats 4000000 in
theorem C_X1_copy (G : xG) (h : xH) (rr ro : Nat) (r ro_ : Nat → Int32) (k_rr : hAt h rr = some (ruC r)) (k_ro : hAt h ro = some (ruC ro_)) (n_rr_ro : rr ≠ ro) : Cd G 0 yX1_copy cX1_copy 2 none [.ref rr, .ref ro] h none (hSet h rr (ruC (f_X1_copy r ro_))) := by
  have n_ro_rr : ro ≠ rr := Ne.symm n_rr_ro
  refine Ct.of (by decide) (by rfl) ?_
  refine Wp.eqs (L' := [(0, .ref rr), (1, .ref ro)]) (st' := []) rfl rfl ?_
  refine Wp.eqh (h' := (hSet h rr (ruC r))) (by rw [hSet_self k_rr]) ?_
  obtain ⟨R, er⟩ : ∃ R, R = f_X1_copy r ro_ := ⟨_, rfl⟩
  rw [← er]
  unfold f_X1_copy at er
  refine x_aload_n (pc := 0) dX1_copy_0 rfl ?_
  refine x_aload_n (pc := 1) dX1_copy_1 rfl ?_
  refine x_getf (pc := 2) (v := .int (ro_ 0)) dX1_copy_2 xf_X1_9 (hAt_n n_ro_rr k_ro) rfl ?_
  refine x_putf (pc := 5) (e' := ruC (upd r 0 (ro_ 0))) dX1_copy_5 xf_X1_9 hAt_same rfl rfl rfl rfl ?_
  refine Wp.eqh (h' := (hSet h rr (ruC (upd r 0 (ro_ 0))))) (hSet_set) ?_
  refine x_aload_n (pc := 8) dX1_copy_8 rfl ?_
  refine x_aload_n (pc := 9) dX1_copy_9 rfl ?_
  refine x_getf (pc := 10) (v := .int (ro_ 1)) dX1_copy_10 xf_X1_15 (hAt_n n_ro_rr k_ro) rfl ?_
  refine x_putf (pc := 13) (e' := ruC (upd (upd r 0 (ro_ 0)) 1 (ro_ 1))) dX1_copy_13 xf_X1_15 hAt_same rfl rfl rfl rfl ?_
  refine Wp.eqh (h' := (hSet h rr (ruC (upd (upd r 0 (ro_ 0)) 1 (ro_ 1))))) (hSet_set) ?_
  refine x_aload_n (pc := 16) dX1_copy_16 rfl ?_
  refine x_aload_n (pc := 17) dX1_copy_17 rfl ?_
  refine x_getf (pc := 18) (v := .int (ro_ 2)) dX1_copy_18 xf_X1_18 (hAt_n n_ro_rr k_ro) rfl ?_
  refine x_putf (pc := 21) (e' := ruC (upd (upd (upd r 0 (ro_ 0)) 1 (ro_ 1)) 2 (ro_ 2))) dX1_copy_21 xf_X1_18 hAt_same rfl rfl rfl rfl ?_
  refine Wp.eqh (h' := (hSet h rr (ruC (upd (upd (upd r 0 (ro_ 0)) 1 (ro_ 1)) 2 (ro_ 2))))) (hSet_set) ?_
  refine x_aload_n (pc := 24) dX1_copy_24 rfl ?_
  refine x_aload_n (pc := 25) dX1_copy_25 rfl ?_
  refine x_getf (pc := 26) (v := .int (ro_ 3)) dX1_copy_26 xf_X1_21 (hAt_n n_ro_rr k_ro) rfl ?_
  refine x_putf (pc := 29) (e' := ruC (upd (upd (upd (upd r 0 (ro_ 0)) 1 (ro_ 1)) 2 (ro_ 2)) 3 (ro_ 3))) dX1_copy_29 xf_X1_21 hAt_same rfl rfl rfl rfl ?_
  refine Wp.eqh (h' := (hSet h rr (ruC (upd (upd (upd (upd r 0 (ro_ 0)) 1 (ro_ 1)) 2 (ro_ 2)) 3 (ro_ 3))))) (hSet_set) ?_
  refine x_aload_n (pc := 32) dX1_copy_32 rfl ?_
  refine x_aload_n (pc := 33) dX1_copy_33 rfl ?_
  refine x_getf (pc := 34) (v := .int (ro_ 4)) dX1_copy_34 xf_X1_24 (hAt_n n_ro_rr k_ro) rfl ?_
  refine x_putf (pc := 37) (e' := ruC (upd (upd (upd (upd (upd r 0 (ro_ 0)) 1 (ro_ 1)) 2 (ro_ 2)) 3 (ro_ 3)) 4 (ro_ 4))) dX1_copy_37 xf_X1_24 hAt_same rfl rfl rfl rfl ?_
  refine Wp.eqh (h' := (hSet h rr (ruC (upd (upd (upd (upd (upd r 0 (ro_ 0)) 1 (ro_ 1)) 2 (ro_ 2)) 3 (ro_ 3)) 4 (ro_ 4))))) (hSet_set) ?_
  subst er
  exact x_vret (pc := 40) dX1_copy_40 rfl rfl rfl ⟨rfl, rfl⟩

def f_X1_trusts (r : Nat → Int32) (told size : Int32) : Int32 := (if (r 3) = (0 : Int32) then (1 : Int32) else (if (r 3) = (1 : Int32) then (if told < (r 0) then (0 : Int32) else (if size ≤ told then (0 : Int32) else (1 : Int32))) else (0 : Int32)))
set_option maxRecDepth 100000 in
set_option maxHeartbeats 4000000 in
theorem C_X1_trusts (G : xG) (h : xH) (rr : Nat) (r : Nat → Int32) (told size : Int32) (k_rr : hAt h rr = some (ruC r)) : Cd G 0 yX1_trusts cX1_trusts 3 (some .boolean) [.ref rr, .int told, .int size] h (some (.int (f_X1_trusts r told size))) h := by
  refine Ct.of (by decide) (by rfl) ?_
  refine Wp.eqs (L' := [(0, .ref rr), (1, .int told), (2, .int size)]) (st' := []) rfl rfl ?_
  obtain ⟨R, er⟩ : ∃ R, R = f_X1_trusts r told size := ⟨_, rfl⟩
  rw [← er]
  unfold f_X1_trusts at er
  refine x_aload_n (pc := 0) dX1_trusts_0 rfl ?_
  refine x_getf (pc := 1) (v := .int (r 3)) dX1_trusts_1 xf_X1_21 k_rr rfl ?_
  by_cases c1 : (r 3) = (0 : Int32)
  · rw [if_pos c1] at er
    refine x_lookup (pc := 4) (off := 28) (tgt := 32) dX1_trusts_4 (by decide) (by rw [c1]; decide) (by decide) ?_
    refine x_iconst (pc := 32) (v := (1 : Int32)) dX1_trusts_32 (by decide) ?_
    subst er
    exact x_iret (pc := 33) dX1_trusts_33 rfl rfl rfl rfl ⟨rfl, rfl⟩
  rw [if_neg c1] at er
  by_cases c2 : (r 3) = (1 : Int32)
  · rw [if_pos c2] at er
    refine x_lookup (pc := 4) (off := 30) (tgt := 34) dX1_trusts_4 (by decide) (by rw [c2]; decide) (by decide) ?_
    refine x_iload_n (pc := 34) dX1_trusts_34 rfl ?_
    refine x_aload_n (pc := 35) dX1_trusts_35 rfl ?_
    refine x_getf (pc := 36) (v := .int (r 0)) dX1_trusts_36 xf_X1_9 k_rr rfl ?_
    refine x_mrg (pc' := 52) (L' := [(0, .ref rr), (1, .int told), (2, .int size)]) (st' := [.int (if told < (r 0) then (0 : Int32) else (if size ≤ told then (0 : Int32) else (1 : Int32)))]) (h' := h) (fun J => ?_) ?_
    · refine x_icmp_lt (pc := 39) (tgt := 51) dX1_trusts_39 (by decide) (fun (c3 : told < (r 0)) => ?_) (fun (c3 : ¬ (told < (r 0))) => ?_)
      · refine x_iconst (pc := 51) (v := (0 : Int32)) dX1_trusts_51 (by decide) ?_
        rw [if_pos c3] at J
        exact J
      · refine x_iload_n (pc := 42) dX1_trusts_42 rfl ?_
        refine x_iload_n (pc := 43) dX1_trusts_43 rfl ?_
        refine x_icmp_ge (pc := 44) (tgt := 51) dX1_trusts_44 (by decide) (fun (c4 : size ≤ told) => ?_) (fun (c4 : ¬ (size ≤ told)) => ?_)
        · refine x_iconst (pc := 51) (v := (0 : Int32)) dX1_trusts_51 (by decide) ?_
          rw [if_neg c3, if_pos c4] at J
          exact J
        · refine x_iconst (pc := 47) (v := (1 : Int32)) dX1_trusts_47 (by decide) ?_
          refine x_goto (pc := 48) (tgt := 52) dX1_trusts_48 (by decide) ?_
          rw [if_neg c3, if_neg c4] at J
          exact J
    subst er
    exact x_iret (pc := 52) dX1_trusts_52 rfl (xb_nar (xB_ite xB0 (xB_ite xB0 xB1))) rfl rfl ⟨rfl, rfl⟩
  rw [if_neg c2] at er
  refine x_lookup (pc := 4) (off := 49) (tgt := 53) dX1_trusts_4 (by decide) (by have zc1 := xneL c1 (z := 0) rfl; have zc2 := xneL c2 (z := 1) rfl; simp [Op.lookupswitch.offset]; omega) (by decide) ?_
  refine x_iconst (pc := 53) (v := (0 : Int32)) dX1_trusts_53 (by decide) ?_
  subst er
  exact x_iret (pc := 54) dX1_trusts_54 rfl rfl rfl rfl ⟨rfl, rfl⟩
theorem B_X1_trusts (r : Nat → Int32) (told size : Int32) : xB (f_X1_trusts r told size) := by
  unfold f_X1_trusts
  exact (xB_ite xB1 (xB_ite (xB_ite xB0 (xB_ite xB0 xB1)) xB0))

def f_X3_isNarrowed (w : Nat → Int32) : Int32 := (if (w 0) = (w 1) then (1 : Int32) else (0 : Int32))
set_option maxRecDepth 100000 in
set_option maxHeartbeats 4000000 in
theorem C_X3_isNarrowed (G : xG) (h : xH) (a la ka : Nat) (w : Nat → Int32) (k_a : hAt h a = some (waC la ka w)) : Cd G 0 yX3_isNarrowed cX3_isNarrowed 1 (some .boolean) [.ref a] h (some (.int (f_X3_isNarrowed w))) h := by
  refine Ct.of (by decide) (by rfl) ?_
  refine Wp.eqs (L' := [(0, .ref a)]) (st' := []) rfl rfl ?_
  obtain ⟨R, er⟩ : ∃ R, R = f_X3_isNarrowed w := ⟨_, rfl⟩
  rw [← er]
  unfold f_X3_isNarrowed at er
  refine x_aload_n (pc := 0) dX3_isNarrowed_0 rfl ?_
  refine x_getf (pc := 1) (v := .int (w 0)) dX3_isNarrowed_1 xf_X3_33 k_a rfl ?_
  refine x_aload_n (pc := 4) dX3_isNarrowed_4 rfl ?_
  refine x_getf (pc := 5) (v := .int (w 1)) dX3_isNarrowed_5 xf_X3_39 k_a rfl ?_
  refine x_mrg (pc' := 16) (L' := [(0, .ref a)]) (st' := [.int (if (w 0) = (w 1) then (1 : Int32) else (0 : Int32))]) (h' := h) (fun J => ?_) ?_
  · refine x_icmp_ne (pc := 8) (tgt := 15) dX3_isNarrowed_8 (by decide) (fun (c1 : ¬ ((w 0) = (w 1))) => ?_) (fun (c1 : (w 0) = (w 1)) => ?_)
    · refine x_iconst (pc := 15) (v := (0 : Int32)) dX3_isNarrowed_15 (by decide) ?_
      rw [if_neg c1] at J
      exact J
    · refine x_iconst (pc := 11) (v := (1 : Int32)) dX3_isNarrowed_11 (by decide) ?_
      refine x_goto (pc := 12) (tgt := 16) dX3_isNarrowed_12 (by decide) ?_
      rw [if_pos c1] at J
      exact J
  subst er
  exact x_iret (pc := 16) dX3_isNarrowed_16 rfl (xb_nar (xB_ite xB1 xB0)) rfl rfl ⟨rfl, rfl⟩
theorem B_X3_isNarrowed (w : Nat → Int32) : xB (f_X3_isNarrowed w) := by
  unfold f_X3_isNarrowed
  exact (xB_ite xB1 xB0)

def f_X3_probeSize (w : Nat → Int32) : Int32 := ((w 0) + ((((w 1) - (w 0)) + (1 : Int32)) / (2 : Int32)))
set_option maxRecDepth 100000 in
set_option maxHeartbeats 4000000 in
theorem C_X3_probeSize (G : xG) (h : xH) (a la ka : Nat) (w : Nat → Int32) (k_a : hAt h a = some (waC la ka w)) : Cd G 0 yX3_probeSize cX3_probeSize 1 (some .int) [.ref a] h (some (.int (f_X3_probeSize w))) h := by
  refine Ct.of (by decide) (by rfl) ?_
  refine Wp.eqs (L' := [(0, .ref a)]) (st' := []) rfl rfl ?_
  obtain ⟨R, er⟩ : ∃ R, R = f_X3_probeSize w := ⟨_, rfl⟩
  rw [← er]
  unfold f_X3_probeSize at er
  refine x_aload_n (pc := 0) dX3_probeSize_0 rfl ?_
  refine x_getf (pc := 1) (v := .int (w 0)) dX3_probeSize_1 xf_X3_33 k_a rfl ?_
  refine x_aload_n (pc := 4) dX3_probeSize_4 rfl ?_
  refine x_getf (pc := 5) (v := .int (w 1)) dX3_probeSize_5 xf_X3_39 k_a rfl ?_
  refine x_aload_n (pc := 8) dX3_probeSize_8 rfl ?_
  refine x_getf (pc := 9) (v := .int (w 0)) dX3_probeSize_9 xf_X3_33 k_a rfl ?_
  refine x_isub (pc := 12) dX3_probeSize_12 ?_
  refine x_iconst (pc := 13) (v := (1 : Int32)) dX3_probeSize_13 (by decide) ?_
  refine x_iadd (pc := 14) dX3_probeSize_14 ?_
  refine x_iconst (pc := 15) (v := (2 : Int32)) dX3_probeSize_15 (by decide) ?_
  refine x_idiv (pc := 16) dX3_probeSize_16 (by decide) ?_
  refine x_iadd (pc := 17) dX3_probeSize_17 ?_
  subst er
  exact x_iret (pc := 18) dX3_probeSize_18 rfl rfl rfl rfl ⟨rfl, rfl⟩

def f_X3_clear (w : Nat → Int32) (np : Int32) : (Nat → Int32) := (upd (upd (upd w 24 np) 11 (0 : Int32)) 10 (0 : Int32))
set_option maxRecDepth 100000 in
set_option maxHeartbeats 4000000 in
theorem C_X3_clear (G : xG) (h : xH) (a la ka : Nat) (w : Nat → Int32) (np : Int32) (k_a : hAt h a = some (waC la ka w)) : Cd G 0 yX3_clear cX3_clear 2 none [.ref a, .int np] h none (hSet h a (waC la ka (f_X3_clear w np))) := by
  refine Ct.of (by decide) (by rfl) ?_
  refine Wp.eqs (L' := [(0, .ref a), (1, .int np)]) (st' := []) rfl rfl ?_
  refine Wp.eqh (h' := (hSet h a (waC la ka w))) (by rw [hSet_self k_a]) ?_
  obtain ⟨R, er⟩ : ∃ R, R = f_X3_clear w np := ⟨_, rfl⟩
  rw [← er]
  unfold f_X3_clear at er
  refine x_aload_n (pc := 0) dX3_clear_0 rfl ?_
  refine x_iload_n (pc := 1) dX3_clear_1 rfl ?_
  refine x_putf (pc := 2) (e' := waC la ka (upd w 24 np)) dX3_clear_2 xf_X3_18 hAt_same rfl rfl rfl rfl ?_
  refine Wp.eqh (h' := (hSet h a (waC la ka (upd w 24 np)))) (hSet_set) ?_
  refine x_aload_n (pc := 5) dX3_clear_5 rfl ?_
  refine x_iconst (pc := 6) (v := (0 : Int32)) dX3_clear_6 (by decide) ?_
  refine x_putf (pc := 7) (e' := waC la ka (upd (upd w 24 np) 11 (0 : Int32))) dX3_clear_7 xf_X3_22 hAt_same rfl rfl rfl rfl ?_
  refine Wp.eqh (h' := (hSet h a (waC la ka (upd (upd w 24 np) 11 (0 : Int32))))) (hSet_set) ?_
  refine x_aload_n (pc := 10) dX3_clear_10 rfl ?_
  refine x_iconst (pc := 11) (v := (0 : Int32)) dX3_clear_11 (by decide) ?_
  refine x_putf (pc := 12) (e' := waC la ka (upd (upd (upd w 24 np) 11 (0 : Int32)) 10 (0 : Int32))) dX3_clear_12 xf_X3_25 hAt_same rfl rfl rfl rfl ?_
  refine Wp.eqh (h' := (hSet h a (waC la ka (upd (upd (upd w 24 np) 11 (0 : Int32)) 10 (0 : Int32))))) (hSet_set) ?_
  subst er
  exact x_vret (pc := 15) dX3_clear_15 rfl rfl rfl ⟨rfl, rfl⟩

def f_X3_addHop (w lf kf : Nat → Int32) (nl nk : Int32) : Int32 × (Nat → Int32) × (Nat → Int32) × (Nat → Int32) := (if (w 11) < (6 : Int32) then ((1 : Int32), (upd w 11 ((w 11) + (1 : Int32))), (upd lf ((w 11).toNatClampNeg) nl), (upd kf ((w 11).toNatClampNeg) nk)) else ((0 : Int32), w, lf, kf))
def p_X3_addHop (w lf kf : Nat → Int32) (nl nk : Int32) : Prop := (((w 11) < (6 : Int32) → (vp_in (w 11) 6 ∧ (vp_in (w 11) 6 ∧ True))) ∧ (¬ ((w 11) < (6 : Int32)) → True))
set_option maxRecDepth 100000 in
set_option maxHeartbeats 4000000 in
theorem C_X3_addHop (G : xG) (h : xH) (a la ka : Nat) (w lf kf : Nat → Int32) (nl nk : Int32) (k_a : hAt h a = some (waC la ka w)) (k_la : hAt h la = some (arI 6 lf)) (k_ka : hAt h ka = some (arI 6 kf)) (n_la_ka : la ≠ ka) (hp : p_X3_addHop w lf kf nl nk) : Cd G 0 yX3_addHop cX3_addHop 3 (some .boolean) [.ref a, .int nl, .int nk] h (some (.int (f_X3_addHop w lf kf nl nk).1)) (hSet (hSet (hSet h a (waC la ka (f_X3_addHop w lf kf nl nk).2.1)) la (arI 6 (f_X3_addHop w lf kf nl nk).2.2.1)) ka (arI 6 (f_X3_addHop w lf kf nl nk).2.2.2)) := by
  have n_a_ka : a ≠ ka := hne_k k_a k_ka rfl
  have n_a_la : a ≠ la := hne_k k_a k_la rfl
  refine Ct.of (by decide) (by rfl) ?_
  refine Wp.eqs (L' := [(0, .ref a), (1, .int nl), (2, .int nk)]) (st' := []) rfl rfl ?_
  refine Wp.eqh (h' := (hSet (hSet (hSet h a (waC la ka w)) la (arI 6 lf)) ka (arI 6 kf))) (by rw [hSet_self k_a, hSet_self k_la, hSet_self k_ka]) ?_
  obtain ⟨R, er⟩ : ∃ R, R = f_X3_addHop w lf kf nl nk := ⟨_, rfl⟩
  rw [← er]
  unfold f_X3_addHop at er
  unfold p_X3_addHop at hp
  refine x_aload_n (pc := 0) dX3_addHop_0 rfl ?_
  refine x_getf (pc := 1) (v := .int (w 11)) dX3_addHop_1 xf_X3_22 (hAt_n n_a_ka (hAt_n n_a_la hAt_same)) rfl ?_
  refine x_bipush (pc := 4) (v := (6 : Int32)) dX3_addHop_4 (by decide) ?_
  refine x_icmp_lt (pc := 6) (tgt := 11) dX3_addHop_6 (by decide) (fun (c1 : (w 11) < (6 : Int32)) => ?_) (fun (c1 : ¬ ((w 11) < (6 : Int32))) => ?_)
  · rw [if_pos c1] at er
    replace hp := hp.1 c1
    refine x_aload_n (pc := 11) dX3_addHop_11 rfl ?_
    refine x_getf (pc := 12) (v := .ref la) dX3_addHop_12 xf_X3_9 (hAt_n n_a_ka (hAt_n n_a_la hAt_same)) rfl ?_
    refine x_aload_n (pc := 15) dX3_addHop_15 rfl ?_
    refine x_getf (pc := 16) (v := .int (w 11)) dX3_addHop_16 xf_X3_22 (hAt_n n_a_ka (hAt_n n_a_la hAt_same)) rfl ?_
    refine x_iload_n (pc := 19) dX3_addHop_19 rfl ?_
    obtain ⟨q20, hp⟩ := hp
    refine x_iast (pc := 20) (e' := arI 6 (upd lf ((w 11).toNatClampNeg) nl)) dX3_addHop_20 (hAt_n n_la_ka hAt_same) q20 (j := ((w 11).toNatClampNeg)) rfl rfl ?_
    refine Wp.eqh (h' := (hSet (hSet (hSet h a (waC la ka w)) la (arI 6 (upd lf ((w 11).toNatClampNeg) nl))) ka (arI 6 kf))) (hSet_sw1 n_la_ka) ?_
    refine x_aload_n (pc := 21) dX3_addHop_21 rfl ?_
    refine x_getf (pc := 22) (v := .ref ka) dX3_addHop_22 xf_X3_15 (hAt_n n_a_ka (hAt_n n_a_la hAt_same)) rfl ?_
    refine x_aload_n (pc := 25) dX3_addHop_25 rfl ?_
    refine x_getf (pc := 26) (v := .int (w 11)) dX3_addHop_26 xf_X3_22 (hAt_n n_a_ka (hAt_n n_a_la hAt_same)) rfl ?_
    refine x_iload_n (pc := 29) dX3_addHop_29 rfl ?_
    obtain ⟨q30, hp⟩ := hp
    refine x_iast (pc := 30) (e' := arI 6 (upd kf ((w 11).toNatClampNeg) nk)) dX3_addHop_30 hAt_same q30 (j := ((w 11).toNatClampNeg)) rfl rfl ?_
    refine Wp.eqh (h' := (hSet (hSet (hSet h a (waC la ka w)) la (arI 6 (upd lf ((w 11).toNatClampNeg) nl))) ka (arI 6 (upd kf ((w 11).toNatClampNeg) nk)))) (hSet_set) ?_
    refine x_aload_n (pc := 31) dX3_addHop_31 rfl ?_
    refine x_dup (pc := 32) dX3_addHop_32 rfl ?_
    refine x_getf (pc := 33) (v := .int (w 11)) dX3_addHop_33 xf_X3_22 (hAt_n n_a_ka (hAt_n n_a_la hAt_same)) rfl ?_
    refine x_iconst (pc := 36) (v := (1 : Int32)) dX3_addHop_36 (by decide) ?_
    refine x_iadd (pc := 37) dX3_addHop_37 ?_
    refine x_putf (pc := 38) (e' := waC la ka (upd w 11 ((w 11) + (1 : Int32)))) dX3_addHop_38 xf_X3_22 (hAt_n n_a_ka (hAt_n n_a_la hAt_same)) rfl rfl rfl rfl ?_
    refine Wp.eqh (h' := (hSet (hSet (hSet h a (waC la ka (upd w 11 ((w 11) + (1 : Int32))))) la (arI 6 (upd lf ((w 11).toNatClampNeg) nl))) ka (arI 6 (upd kf ((w 11).toNatClampNeg) nk)))) (hSet_sw2 n_a_la n_a_ka) ?_
    refine x_iconst (pc := 41) (v := (1 : Int32)) dX3_addHop_41 (by decide) ?_
    subst er
    exact x_iret (pc := 42) dX3_addHop_42 rfl rfl rfl rfl ⟨rfl, rfl⟩
  · rw [if_neg c1] at er
    replace hp := hp.2 c1
    refine x_iconst (pc := 9) (v := (0 : Int32)) dX3_addHop_9 (by decide) ?_
    subst er
    exact x_iret (pc := 10) dX3_addHop_10 rfl rfl rfl rfl ⟨rfl, rfl⟩
theorem B_X3_addHop (w lf kf : Nat → Int32) (nl nk : Int32) : xB (f_X3_addHop w lf kf nl nk).1 := by
  unfold f_X3_addHop
  exact (xB_ite1 (xB_fst xB1) (xB_fst xB0))

def f_X3_begin (w r : Nat → Int32) : (Nat → Int32) := (upd (upd (upd (upd (upd (upd (upd (upd (upd (upd w 0 (r 0)) 1 (r 1)) 2 (if (f_X3_isNarrowed (upd (upd w 0 (r 0)) 1 (r 1))) = 0 then (0 : Int32) else (1 : Int32))) 3 (0 : Int32)) 4 (0 : Int32)) 5 (0 : Int32)) 6 (0 : Int32)) 7 (0 : Int32)) 8 (0 : Int32)) 9 (0 : Int32))
set_option maxRecDepth 100000 in
set_option maxHeartbeats 4000000 in
theorem C_X3_begin (G : xG) (h : xH) (a rr la ka : Nat) (w r : Nat → Int32) (k_a : hAt h a = some (waC la ka w)) (k_rr : hAt h rr = some (ruC r)) : Cd G 1 yX3_begin cX3_begin 2 none [.ref a, .ref rr] h none (hSet h a (waC la ka (f_X3_begin w r))) := by
  have n_rr_a : rr ≠ a := hne_k k_rr k_a rfl
  refine Ct.of (by decide) (by rfl) ?_
  refine Wp.eqs (L' := [(0, .ref a), (1, .ref rr)]) (st' := []) rfl rfl ?_
  refine Wp.eqh (h' := (hSet h a (waC la ka w))) (by rw [hSet_self k_a]) ?_
  obtain ⟨R, er⟩ : ∃ R, R = f_X3_begin w r := ⟨_, rfl⟩
  rw [← er]
  unfold f_X3_begin at er
  refine x_aload_n (pc := 0) dX3_begin_0 rfl ?_
  refine x_aload_n (pc := 1) dX3_begin_1 rfl ?_
  refine x_getf (pc := 2) (v := .int (r 0)) dX3_begin_2 xf_X3_28 (hAt_n n_rr_a k_rr) rfl ?_
  refine x_putf (pc := 5) (e' := waC la ka (upd w 0 (r 0))) dX3_begin_5 xf_X3_33 hAt_same rfl rfl rfl rfl ?_
  refine Wp.eqh (h' := (hSet h a (waC la ka (upd w 0 (r 0))))) (hSet_set) ?_
  refine x_aload_n (pc := 8) dX3_begin_8 rfl ?_
  refine x_aload_n (pc := 9) dX3_begin_9 rfl ?_
  refine x_getf (pc := 10) (v := .int (r 1)) dX3_begin_10 xf_X3_36 (hAt_n n_rr_a k_rr) rfl ?_
  refine x_putf (pc := 13) (e' := waC la ka (upd (upd w 0 (r 0)) 1 (r 1))) dX3_begin_13 xf_X3_39 hAt_same rfl rfl rfl rfl ?_
  refine Wp.eqh (h' := (hSet h a (waC la ka (upd (upd w 0 (r 0)) 1 (r 1))))) (hSet_set) ?_
  refine x_aload_n (pc := 16) dX3_begin_16 rfl ?_
  refine x_aload_n (pc := 17) dX3_begin_17 rfl ?_
  refine x_cV0i (pc := 18) dX3_begin_18 xl_X3_42 xv_X3_isNarrowed hAt_same rfl (C_X3_isNarrowed G _ a la ka (upd (upd w 0 (r 0)) 1 (r 1)) hAt_same) rfl rfl rfl ?_
  obtain ⟨F1, eF1⟩ : ∃ F, F = f_X3_isNarrowed (upd (upd w 0 (r 0)) 1 (r 1)) := ⟨_, rfl⟩
  rw [← eF1]
  try rw [← eF1] at er
  have bF1 : xB F1 := by rw [eF1]; exact (B_X3_isNarrowed _)
  refine x_mrg (pc' := 29) (L' := [(0, .ref a), (1, .ref rr)]) (st' := [.int (if F1 = 0 then (0 : Int32) else (1 : Int32)), .ref a]) (h' := (hSet h a (waC la ka (upd (upd w 0 (r 0)) 1 (r 1))))) (fun J => ?_) ?_
  · refine x_if_eq (pc := 21) (tgt := 28) dX3_begin_21 (by decide) (fun (c1 : F1 = 0) => ?_) (fun (c1 : ¬ (F1 = 0)) => ?_)
    · refine x_iconst (pc := 28) (v := (0 : Int32)) dX3_begin_28 (by decide) ?_
      rw [if_pos c1] at J
      exact J
    · refine x_iconst (pc := 24) (v := (1 : Int32)) dX3_begin_24 (by decide) ?_
      refine x_goto (pc := 25) (tgt := 29) dX3_begin_25 (by decide) ?_
      rw [if_neg c1] at J
      exact J
  refine x_putf (pc := 29) (e' := waC la ka (upd (upd (upd w 0 (r 0)) 1 (r 1)) 2 (if F1 = 0 then (0 : Int32) else (1 : Int32)))) dX3_begin_29 xf_X3_46 hAt_same rfl rfl rfl rfl ?_
  refine Wp.eqh (h' := (hSet h a (waC la ka (upd (upd (upd w 0 (r 0)) 1 (r 1)) 2 (if F1 = 0 then (0 : Int32) else (1 : Int32)))))) (hSet_set) ?_
  refine x_aload_n (pc := 32) dX3_begin_32 rfl ?_
  refine x_iconst (pc := 33) (v := (0 : Int32)) dX3_begin_33 (by decide) ?_
  refine x_putf (pc := 34) (e' := waC la ka (upd (upd (upd (upd w 0 (r 0)) 1 (r 1)) 2 (if F1 = 0 then (0 : Int32) else (1 : Int32))) 3 (0 : Int32))) dX3_begin_34 xf_X3_49 hAt_same rfl rfl rfl rfl ?_
  refine Wp.eqh (h' := (hSet h a (waC la ka (upd (upd (upd (upd w 0 (r 0)) 1 (r 1)) 2 (if F1 = 0 then (0 : Int32) else (1 : Int32))) 3 (0 : Int32))))) (hSet_set) ?_
  refine x_aload_n (pc := 37) dX3_begin_37 rfl ?_
  refine x_iconst (pc := 38) (v := (0 : Int32)) dX3_begin_38 (by decide) ?_
  refine x_putf (pc := 39) (e' := waC la ka (upd (upd (upd (upd (upd w 0 (r 0)) 1 (r 1)) 2 (if F1 = 0 then (0 : Int32) else (1 : Int32))) 3 (0 : Int32)) 4 (0 : Int32))) dX3_begin_39 xf_X3_52 hAt_same rfl rfl rfl rfl ?_
  refine Wp.eqh (h' := (hSet h a (waC la ka (upd (upd (upd (upd (upd w 0 (r 0)) 1 (r 1)) 2 (if F1 = 0 then (0 : Int32) else (1 : Int32))) 3 (0 : Int32)) 4 (0 : Int32))))) (hSet_set) ?_
  refine x_aload_n (pc := 42) dX3_begin_42 rfl ?_
  refine x_iconst (pc := 43) (v := (0 : Int32)) dX3_begin_43 (by decide) ?_
  refine x_putf (pc := 44) (e' := waC la ka (upd (upd (upd (upd (upd (upd w 0 (r 0)) 1 (r 1)) 2 (if F1 = 0 then (0 : Int32) else (1 : Int32))) 3 (0 : Int32)) 4 (0 : Int32)) 5 (0 : Int32))) dX3_begin_44 xf_X3_55 hAt_same rfl rfl rfl rfl ?_
  refine Wp.eqh (h' := (hSet h a (waC la ka (upd (upd (upd (upd (upd (upd w 0 (r 0)) 1 (r 1)) 2 (if F1 = 0 then (0 : Int32) else (1 : Int32))) 3 (0 : Int32)) 4 (0 : Int32)) 5 (0 : Int32))))) (hSet_set) ?_
  refine x_aload_n (pc := 47) dX3_begin_47 rfl ?_
  refine x_iconst (pc := 48) (v := (0 : Int32)) dX3_begin_48 (by decide) ?_
  refine x_putf (pc := 49) (e' := waC la ka (upd (upd (upd (upd (upd (upd (upd w 0 (r 0)) 1 (r 1)) 2 (if F1 = 0 then (0 : Int32) else (1 : Int32))) 3 (0 : Int32)) 4 (0 : Int32)) 5 (0 : Int32)) 6 (0 : Int32))) dX3_begin_49 xf_X3_58 hAt_same rfl rfl rfl rfl ?_
  refine Wp.eqh (h' := (hSet h a (waC la ka (upd (upd (upd (upd (upd (upd (upd w 0 (r 0)) 1 (r 1)) 2 (if F1 = 0 then (0 : Int32) else (1 : Int32))) 3 (0 : Int32)) 4 (0 : Int32)) 5 (0 : Int32)) 6 (0 : Int32))))) (hSet_set) ?_
  refine x_aload_n (pc := 52) dX3_begin_52 rfl ?_
  refine x_iconst (pc := 53) (v := (0 : Int32)) dX3_begin_53 (by decide) ?_
  refine x_putf (pc := 54) (e' := waC la ka (upd (upd (upd (upd (upd (upd (upd (upd w 0 (r 0)) 1 (r 1)) 2 (if F1 = 0 then (0 : Int32) else (1 : Int32))) 3 (0 : Int32)) 4 (0 : Int32)) 5 (0 : Int32)) 6 (0 : Int32)) 7 (0 : Int32))) dX3_begin_54 xf_X3_61 hAt_same rfl rfl rfl rfl ?_
  refine Wp.eqh (h' := (hSet h a (waC la ka (upd (upd (upd (upd (upd (upd (upd (upd w 0 (r 0)) 1 (r 1)) 2 (if F1 = 0 then (0 : Int32) else (1 : Int32))) 3 (0 : Int32)) 4 (0 : Int32)) 5 (0 : Int32)) 6 (0 : Int32)) 7 (0 : Int32))))) (hSet_set) ?_
  refine x_aload_n (pc := 57) dX3_begin_57 rfl ?_
  refine x_iconst (pc := 58) (v := (0 : Int32)) dX3_begin_58 (by decide) ?_
  refine x_putf (pc := 59) (e' := waC la ka (upd (upd (upd (upd (upd (upd (upd (upd (upd w 0 (r 0)) 1 (r 1)) 2 (if F1 = 0 then (0 : Int32) else (1 : Int32))) 3 (0 : Int32)) 4 (0 : Int32)) 5 (0 : Int32)) 6 (0 : Int32)) 7 (0 : Int32)) 8 (0 : Int32))) dX3_begin_59 xf_X3_64 hAt_same rfl rfl rfl rfl ?_
  refine Wp.eqh (h' := (hSet h a (waC la ka (upd (upd (upd (upd (upd (upd (upd (upd (upd w 0 (r 0)) 1 (r 1)) 2 (if F1 = 0 then (0 : Int32) else (1 : Int32))) 3 (0 : Int32)) 4 (0 : Int32)) 5 (0 : Int32)) 6 (0 : Int32)) 7 (0 : Int32)) 8 (0 : Int32))))) (hSet_set) ?_
  refine x_aload_n (pc := 62) dX3_begin_62 rfl ?_
  refine x_iconst (pc := 63) (v := (0 : Int32)) dX3_begin_63 (by decide) ?_
  refine x_putf (pc := 64) (e' := waC la ka (upd (upd (upd (upd (upd (upd (upd (upd (upd (upd w 0 (r 0)) 1 (r 1)) 2 (if F1 = 0 then (0 : Int32) else (1 : Int32))) 3 (0 : Int32)) 4 (0 : Int32)) 5 (0 : Int32)) 6 (0 : Int32)) 7 (0 : Int32)) 8 (0 : Int32)) 9 (0 : Int32))) dX3_begin_64 xf_X3_67 hAt_same rfl rfl rfl rfl ?_
  refine Wp.eqh (h' := (hSet h a (waC la ka (upd (upd (upd (upd (upd (upd (upd (upd (upd (upd w 0 (r 0)) 1 (r 1)) 2 (if F1 = 0 then (0 : Int32) else (1 : Int32))) 3 (0 : Int32)) 4 (0 : Int32)) 5 (0 : Int32)) 6 (0 : Int32)) 7 (0 : Int32)) 8 (0 : Int32)) 9 (0 : Int32))))) (hSet_set) ?_
  subst er
  exact x_vret (pc := 67) dX3_begin_67 rfl rfl rfl ⟨rfl, rfl⟩

def f_X3_copy (w lf kf w2 lf2 kf2 : Nat → Int32) : (Nat → Int32) × (Nat → Int32) × (Nat → Int32) := ((upd (upd (upd (upd (upd (upd (upd (upd (upd (upd (upd (upd (upd w 24 (w2 24)) 11 (w2 11)) 10 (w2 10)) 0 (w2 0)) 1 (w2 1)) 2 (w2 2)) 3 (w2 3)) 4 (w2 4)) 5 (w2 5)) 6 (w2 6)) 7 (w2 7)) 8 (w2 8)) 9 (w2 9)), (va_cpy lf2 lf 0 0 6), (va_cpy kf2 kf 0 0 6))
set_option maxRecDepth 100000 in
set_option maxHeartbeats 4000000 in
theorem C_X3_copy (G : xG) (h : xH) (a b la ka lb kb : Nat) (w lf kf w2 lf2 kf2 : Nat → Int32) (k_a : hAt h a = some (waC la ka w)) (k_la : hAt h la = some (arI 6 lf)) (k_ka : hAt h ka = some (arI 6 kf)) (k_b : hAt h b = some (waC lb kb w2)) (k_lb : hAt h lb = some (arI 6 lf2)) (k_kb : hAt h kb = some (arI 6 kf2)) (n_a_b : a ≠ b) (n_la_ka : la ≠ ka) (n_la_lb : la ≠ lb) (n_la_kb : la ≠ kb) (n_ka_lb : ka ≠ lb) (n_ka_kb : ka ≠ kb) : Cd G 1 yX3_copy cX3_copy 2 none [.ref a, .ref b] h none (hSet (hSet (hSet h a (waC la ka (f_X3_copy w lf kf w2 lf2 kf2).1)) la (arI 6 (f_X3_copy w lf kf w2 lf2 kf2).2.1)) ka (arI 6 (f_X3_copy w lf kf w2 lf2 kf2).2.2)) := by
  have n_a_ka : a ≠ ka := hne_k k_a k_ka rfl
  have n_a_la : a ≠ la := hne_k k_a k_la rfl
  have n_b_a : b ≠ a := Ne.symm n_a_b
  have n_b_ka : b ≠ ka := hne_k k_b k_ka rfl
  have n_b_la : b ≠ la := hne_k k_b k_la rfl
  have n_kb_a : kb ≠ a := hne_k k_kb k_a rfl
  have n_kb_ka : kb ≠ ka := Ne.symm n_ka_kb
  have n_kb_la : kb ≠ la := Ne.symm n_la_kb
  have n_lb_a : lb ≠ a := hne_k k_lb k_a rfl
  have n_lb_ka : lb ≠ ka := Ne.symm n_ka_lb
  have n_lb_la : lb ≠ la := Ne.symm n_la_lb
  refine Ct.of (by decide) (by rfl) ?_
  refine Wp.eqs (L' := [(0, .ref a), (1, .ref b)]) (st' := []) rfl rfl ?_
  refine Wp.eqh (h' := (hSet (hSet (hSet h a (waC la ka w)) la (arI 6 lf)) ka (arI 6 kf))) (by rw [hSet_self k_a, hSet_self k_la, hSet_self k_ka]) ?_
  obtain ⟨R, er⟩ : ∃ R, R = f_X3_copy w lf kf w2 lf2 kf2 := ⟨_, rfl⟩
  rw [← er]
  unfold f_X3_copy at er
  refine x_aload_n (pc := 0) dX3_copy_0 rfl ?_
  refine x_aload_n (pc := 1) dX3_copy_1 rfl ?_
  refine x_getf (pc := 2) (v := .int (w2 24)) dX3_copy_2 xf_X3_18 (hAt_n n_b_ka (hAt_n n_b_la (hAt_n n_b_a k_b))) rfl ?_
  refine x_putf (pc := 5) (e' := waC la ka (upd w 24 (w2 24))) dX3_copy_5 xf_X3_18 (hAt_n n_a_ka (hAt_n n_a_la hAt_same)) rfl rfl rfl rfl ?_
  refine Wp.eqh (h' := (hSet (hSet (hSet h a (waC la ka (upd w 24 (w2 24)))) la (arI 6 lf)) ka (arI 6 kf))) (hSet_sw2 n_a_la n_a_ka) ?_
  refine x_aload_n (pc := 8) dX3_copy_8 rfl ?_
  refine x_aload_n (pc := 9) dX3_copy_9 rfl ?_
  refine x_getf (pc := 10) (v := .int (w2 11)) dX3_copy_10 xf_X3_22 (hAt_n n_b_ka (hAt_n n_b_la (hAt_n n_b_a k_b))) rfl ?_
  refine x_putf (pc := 13) (e' := waC la ka (upd (upd w 24 (w2 24)) 11 (w2 11))) dX3_copy_13 xf_X3_22 (hAt_n n_a_ka (hAt_n n_a_la hAt_same)) rfl rfl rfl rfl ?_
  refine Wp.eqh (h' := (hSet (hSet (hSet h a (waC la ka (upd (upd w 24 (w2 24)) 11 (w2 11)))) la (arI 6 lf)) ka (arI 6 kf))) (hSet_sw2 n_a_la n_a_ka) ?_
  refine x_aload_n (pc := 16) dX3_copy_16 rfl ?_
  refine x_getf (pc := 17) (v := .ref lb) dX3_copy_17 xf_X3_9 (hAt_n n_b_ka (hAt_n n_b_la (hAt_n n_b_a k_b))) rfl ?_
  refine x_iconst (pc := 20) (v := (0 : Int32)) dX3_copy_20 (by decide) ?_
  refine x_aload_n (pc := 21) dX3_copy_21 rfl ?_
  refine x_getf (pc := 22) (v := .ref la) dX3_copy_22 xf_X3_9 (hAt_n n_a_ka (hAt_n n_a_la hAt_same)) rfl ?_
  refine x_iconst (pc := 25) (v := (0 : Int32)) dX3_copy_25 (by decide) ?_
  refine x_bipush (pc := 26) (v := (6 : Int32)) dX3_copy_26 (by decide) ?_
  refine x_copy (pc := 28) (n := 6) (e' := arI 6 (va_cpy lf2 lf 0 0 6)) dX3_copy_28 xl_X3_70 (hAt_n n_lb_ka (hAt_n n_lb_la (hAt_n n_lb_a k_lb))) (hAt_n n_la_ka hAt_same) rfl rfl rfl rfl rfl rfl rfl rfl ?_
  refine Wp.eqh (h' := (hSet (hSet (hSet h a (waC la ka (upd (upd w 24 (w2 24)) 11 (w2 11)))) la (arI 6 (va_cpy lf2 lf 0 0 6))) ka (arI 6 kf))) (hSet_sw1 n_la_ka) ?_
  refine x_aload_n (pc := 31) dX3_copy_31 rfl ?_
  refine x_getf (pc := 32) (v := .ref kb) dX3_copy_32 xf_X3_15 (hAt_n n_b_ka (hAt_n n_b_la (hAt_n n_b_a k_b))) rfl ?_
  refine x_iconst (pc := 35) (v := (0 : Int32)) dX3_copy_35 (by decide) ?_
  refine x_aload_n (pc := 36) dX3_copy_36 rfl ?_
  refine x_getf (pc := 37) (v := .ref ka) dX3_copy_37 xf_X3_15 (hAt_n n_a_ka (hAt_n n_a_la hAt_same)) rfl ?_
  refine x_iconst (pc := 40) (v := (0 : Int32)) dX3_copy_40 (by decide) ?_
  refine x_bipush (pc := 41) (v := (6 : Int32)) dX3_copy_41 (by decide) ?_
  refine x_copy (pc := 43) (n := 6) (e' := arI 6 (va_cpy kf2 kf 0 0 6)) dX3_copy_43 xl_X3_70 (hAt_n n_kb_ka (hAt_n n_kb_la (hAt_n n_kb_a k_kb))) hAt_same rfl rfl rfl rfl rfl rfl rfl rfl ?_
  refine Wp.eqh (h' := (hSet (hSet (hSet h a (waC la ka (upd (upd w 24 (w2 24)) 11 (w2 11)))) la (arI 6 (va_cpy lf2 lf 0 0 6))) ka (arI 6 (va_cpy kf2 kf 0 0 6)))) (hSet_set) ?_
  refine x_aload_n (pc := 46) dX3_copy_46 rfl ?_
  refine x_aload_n (pc := 47) dX3_copy_47 rfl ?_
  refine x_getf (pc := 48) (v := .int (w2 10)) dX3_copy_48 xf_X3_25 (hAt_n n_b_ka (hAt_n n_b_la (hAt_n n_b_a k_b))) rfl ?_
  refine x_putf (pc := 51) (e' := waC la ka (upd (upd (upd w 24 (w2 24)) 11 (w2 11)) 10 (w2 10))) dX3_copy_51 xf_X3_25 (hAt_n n_a_ka (hAt_n n_a_la hAt_same)) rfl rfl rfl rfl ?_
  refine Wp.eqh (h' := (hSet (hSet (hSet h a (waC la ka (upd (upd (upd w 24 (w2 24)) 11 (w2 11)) 10 (w2 10)))) la (arI 6 (va_cpy lf2 lf 0 0 6))) ka (arI 6 (va_cpy kf2 kf 0 0 6)))) (hSet_sw2 n_a_la n_a_ka) ?_
  refine x_aload_n (pc := 54) dX3_copy_54 rfl ?_
  refine x_aload_n (pc := 55) dX3_copy_55 rfl ?_
  refine x_getf (pc := 56) (v := .int (w2 0)) dX3_copy_56 xf_X3_33 (hAt_n n_b_ka (hAt_n n_b_la (hAt_n n_b_a k_b))) rfl ?_
  refine x_putf (pc := 59) (e' := waC la ka (upd (upd (upd (upd w 24 (w2 24)) 11 (w2 11)) 10 (w2 10)) 0 (w2 0))) dX3_copy_59 xf_X3_33 (hAt_n n_a_ka (hAt_n n_a_la hAt_same)) rfl rfl rfl rfl ?_
  refine Wp.eqh (h' := (hSet (hSet (hSet h a (waC la ka (upd (upd (upd (upd w 24 (w2 24)) 11 (w2 11)) 10 (w2 10)) 0 (w2 0)))) la (arI 6 (va_cpy lf2 lf 0 0 6))) ka (arI 6 (va_cpy kf2 kf 0 0 6)))) (hSet_sw2 n_a_la n_a_ka) ?_
  refine x_aload_n (pc := 62) dX3_copy_62 rfl ?_
  refine x_aload_n (pc := 63) dX3_copy_63 rfl ?_
  refine x_getf (pc := 64) (v := .int (w2 1)) dX3_copy_64 xf_X3_39 (hAt_n n_b_ka (hAt_n n_b_la (hAt_n n_b_a k_b))) rfl ?_
  refine x_putf (pc := 67) (e' := waC la ka (upd (upd (upd (upd (upd w 24 (w2 24)) 11 (w2 11)) 10 (w2 10)) 0 (w2 0)) 1 (w2 1))) dX3_copy_67 xf_X3_39 (hAt_n n_a_ka (hAt_n n_a_la hAt_same)) rfl rfl rfl rfl ?_
  refine Wp.eqh (h' := (hSet (hSet (hSet h a (waC la ka (upd (upd (upd (upd (upd w 24 (w2 24)) 11 (w2 11)) 10 (w2 10)) 0 (w2 0)) 1 (w2 1)))) la (arI 6 (va_cpy lf2 lf 0 0 6))) ka (arI 6 (va_cpy kf2 kf 0 0 6)))) (hSet_sw2 n_a_la n_a_ka) ?_
  refine x_aload_n (pc := 70) dX3_copy_70 rfl ?_
  refine x_aload_n (pc := 71) dX3_copy_71 rfl ?_
  refine x_getf (pc := 72) (v := .int (w2 2)) dX3_copy_72 xf_X3_46 (hAt_n n_b_ka (hAt_n n_b_la (hAt_n n_b_a k_b))) rfl ?_
  refine x_putf (pc := 75) (e' := waC la ka (upd (upd (upd (upd (upd (upd w 24 (w2 24)) 11 (w2 11)) 10 (w2 10)) 0 (w2 0)) 1 (w2 1)) 2 (w2 2))) dX3_copy_75 xf_X3_46 (hAt_n n_a_ka (hAt_n n_a_la hAt_same)) rfl rfl rfl rfl ?_
  refine Wp.eqh (h' := (hSet (hSet (hSet h a (waC la ka (upd (upd (upd (upd (upd (upd w 24 (w2 24)) 11 (w2 11)) 10 (w2 10)) 0 (w2 0)) 1 (w2 1)) 2 (w2 2)))) la (arI 6 (va_cpy lf2 lf 0 0 6))) ka (arI 6 (va_cpy kf2 kf 0 0 6)))) (hSet_sw2 n_a_la n_a_ka) ?_
  refine x_aload_n (pc := 78) dX3_copy_78 rfl ?_
  refine x_aload_n (pc := 79) dX3_copy_79 rfl ?_
  refine x_getf (pc := 80) (v := .int (w2 3)) dX3_copy_80 xf_X3_49 (hAt_n n_b_ka (hAt_n n_b_la (hAt_n n_b_a k_b))) rfl ?_
  refine x_putf (pc := 83) (e' := waC la ka (upd (upd (upd (upd (upd (upd (upd w 24 (w2 24)) 11 (w2 11)) 10 (w2 10)) 0 (w2 0)) 1 (w2 1)) 2 (w2 2)) 3 (w2 3))) dX3_copy_83 xf_X3_49 (hAt_n n_a_ka (hAt_n n_a_la hAt_same)) rfl rfl rfl rfl ?_
  refine Wp.eqh (h' := (hSet (hSet (hSet h a (waC la ka (upd (upd (upd (upd (upd (upd (upd w 24 (w2 24)) 11 (w2 11)) 10 (w2 10)) 0 (w2 0)) 1 (w2 1)) 2 (w2 2)) 3 (w2 3)))) la (arI 6 (va_cpy lf2 lf 0 0 6))) ka (arI 6 (va_cpy kf2 kf 0 0 6)))) (hSet_sw2 n_a_la n_a_ka) ?_
  refine x_aload_n (pc := 86) dX3_copy_86 rfl ?_
  refine x_aload_n (pc := 87) dX3_copy_87 rfl ?_
  refine x_getf (pc := 88) (v := .int (w2 4)) dX3_copy_88 xf_X3_52 (hAt_n n_b_ka (hAt_n n_b_la (hAt_n n_b_a k_b))) rfl ?_
  refine x_putf (pc := 91) (e' := waC la ka (upd (upd (upd (upd (upd (upd (upd (upd w 24 (w2 24)) 11 (w2 11)) 10 (w2 10)) 0 (w2 0)) 1 (w2 1)) 2 (w2 2)) 3 (w2 3)) 4 (w2 4))) dX3_copy_91 xf_X3_52 (hAt_n n_a_ka (hAt_n n_a_la hAt_same)) rfl rfl rfl rfl ?_
  refine Wp.eqh (h' := (hSet (hSet (hSet h a (waC la ka (upd (upd (upd (upd (upd (upd (upd (upd w 24 (w2 24)) 11 (w2 11)) 10 (w2 10)) 0 (w2 0)) 1 (w2 1)) 2 (w2 2)) 3 (w2 3)) 4 (w2 4)))) la (arI 6 (va_cpy lf2 lf 0 0 6))) ka (arI 6 (va_cpy kf2 kf 0 0 6)))) (hSet_sw2 n_a_la n_a_ka) ?_
  refine x_aload_n (pc := 94) dX3_copy_94 rfl ?_
  refine x_aload_n (pc := 95) dX3_copy_95 rfl ?_
  refine x_getf (pc := 96) (v := .int (w2 5)) dX3_copy_96 xf_X3_55 (hAt_n n_b_ka (hAt_n n_b_la (hAt_n n_b_a k_b))) rfl ?_
  refine x_putf (pc := 99) (e' := waC la ka (upd (upd (upd (upd (upd (upd (upd (upd (upd w 24 (w2 24)) 11 (w2 11)) 10 (w2 10)) 0 (w2 0)) 1 (w2 1)) 2 (w2 2)) 3 (w2 3)) 4 (w2 4)) 5 (w2 5))) dX3_copy_99 xf_X3_55 (hAt_n n_a_ka (hAt_n n_a_la hAt_same)) rfl rfl rfl rfl ?_
  refine Wp.eqh (h' := (hSet (hSet (hSet h a (waC la ka (upd (upd (upd (upd (upd (upd (upd (upd (upd w 24 (w2 24)) 11 (w2 11)) 10 (w2 10)) 0 (w2 0)) 1 (w2 1)) 2 (w2 2)) 3 (w2 3)) 4 (w2 4)) 5 (w2 5)))) la (arI 6 (va_cpy lf2 lf 0 0 6))) ka (arI 6 (va_cpy kf2 kf 0 0 6)))) (hSet_sw2 n_a_la n_a_ka) ?_
  refine x_aload_n (pc := 102) dX3_copy_102 rfl ?_
  refine x_aload_n (pc := 103) dX3_copy_103 rfl ?_
  refine x_getf (pc := 104) (v := .int (w2 6)) dX3_copy_104 xf_X3_58 (hAt_n n_b_ka (hAt_n n_b_la (hAt_n n_b_a k_b))) rfl ?_
  refine x_putf (pc := 107) (e' := waC la ka (upd (upd (upd (upd (upd (upd (upd (upd (upd (upd w 24 (w2 24)) 11 (w2 11)) 10 (w2 10)) 0 (w2 0)) 1 (w2 1)) 2 (w2 2)) 3 (w2 3)) 4 (w2 4)) 5 (w2 5)) 6 (w2 6))) dX3_copy_107 xf_X3_58 (hAt_n n_a_ka (hAt_n n_a_la hAt_same)) rfl rfl rfl rfl ?_
  refine Wp.eqh (h' := (hSet (hSet (hSet h a (waC la ka (upd (upd (upd (upd (upd (upd (upd (upd (upd (upd w 24 (w2 24)) 11 (w2 11)) 10 (w2 10)) 0 (w2 0)) 1 (w2 1)) 2 (w2 2)) 3 (w2 3)) 4 (w2 4)) 5 (w2 5)) 6 (w2 6)))) la (arI 6 (va_cpy lf2 lf 0 0 6))) ka (arI 6 (va_cpy kf2 kf 0 0 6)))) (hSet_sw2 n_a_la n_a_ka) ?_
  refine x_aload_n (pc := 110) dX3_copy_110 rfl ?_
  refine x_aload_n (pc := 111) dX3_copy_111 rfl ?_
  refine x_getf (pc := 112) (v := .int (w2 7)) dX3_copy_112 xf_X3_61 (hAt_n n_b_ka (hAt_n n_b_la (hAt_n n_b_a k_b))) rfl ?_
  refine x_putf (pc := 115) (e' := waC la ka (upd (upd (upd (upd (upd (upd (upd (upd (upd (upd (upd w 24 (w2 24)) 11 (w2 11)) 10 (w2 10)) 0 (w2 0)) 1 (w2 1)) 2 (w2 2)) 3 (w2 3)) 4 (w2 4)) 5 (w2 5)) 6 (w2 6)) 7 (w2 7))) dX3_copy_115 xf_X3_61 (hAt_n n_a_ka (hAt_n n_a_la hAt_same)) rfl rfl rfl rfl ?_
  refine Wp.eqh (h' := (hSet (hSet (hSet h a (waC la ka (upd (upd (upd (upd (upd (upd (upd (upd (upd (upd (upd w 24 (w2 24)) 11 (w2 11)) 10 (w2 10)) 0 (w2 0)) 1 (w2 1)) 2 (w2 2)) 3 (w2 3)) 4 (w2 4)) 5 (w2 5)) 6 (w2 6)) 7 (w2 7)))) la (arI 6 (va_cpy lf2 lf 0 0 6))) ka (arI 6 (va_cpy kf2 kf 0 0 6)))) (hSet_sw2 n_a_la n_a_ka) ?_
  refine x_aload_n (pc := 118) dX3_copy_118 rfl ?_
  refine x_aload_n (pc := 119) dX3_copy_119 rfl ?_
  refine x_getf (pc := 120) (v := .int (w2 8)) dX3_copy_120 xf_X3_64 (hAt_n n_b_ka (hAt_n n_b_la (hAt_n n_b_a k_b))) rfl ?_
  refine x_putf (pc := 123) (e' := waC la ka (upd (upd (upd (upd (upd (upd (upd (upd (upd (upd (upd (upd w 24 (w2 24)) 11 (w2 11)) 10 (w2 10)) 0 (w2 0)) 1 (w2 1)) 2 (w2 2)) 3 (w2 3)) 4 (w2 4)) 5 (w2 5)) 6 (w2 6)) 7 (w2 7)) 8 (w2 8))) dX3_copy_123 xf_X3_64 (hAt_n n_a_ka (hAt_n n_a_la hAt_same)) rfl rfl rfl rfl ?_
  refine Wp.eqh (h' := (hSet (hSet (hSet h a (waC la ka (upd (upd (upd (upd (upd (upd (upd (upd (upd (upd (upd (upd w 24 (w2 24)) 11 (w2 11)) 10 (w2 10)) 0 (w2 0)) 1 (w2 1)) 2 (w2 2)) 3 (w2 3)) 4 (w2 4)) 5 (w2 5)) 6 (w2 6)) 7 (w2 7)) 8 (w2 8)))) la (arI 6 (va_cpy lf2 lf 0 0 6))) ka (arI 6 (va_cpy kf2 kf 0 0 6)))) (hSet_sw2 n_a_la n_a_ka) ?_
  refine x_aload_n (pc := 126) dX3_copy_126 rfl ?_
  refine x_aload_n (pc := 127) dX3_copy_127 rfl ?_
  refine x_getf (pc := 128) (v := .int (w2 9)) dX3_copy_128 xf_X3_67 (hAt_n n_b_ka (hAt_n n_b_la (hAt_n n_b_a k_b))) rfl ?_
  refine x_putf (pc := 131) (e' := waC la ka (upd (upd (upd (upd (upd (upd (upd (upd (upd (upd (upd (upd (upd w 24 (w2 24)) 11 (w2 11)) 10 (w2 10)) 0 (w2 0)) 1 (w2 1)) 2 (w2 2)) 3 (w2 3)) 4 (w2 4)) 5 (w2 5)) 6 (w2 6)) 7 (w2 7)) 8 (w2 8)) 9 (w2 9))) dX3_copy_131 xf_X3_67 (hAt_n n_a_ka (hAt_n n_a_la hAt_same)) rfl rfl rfl rfl ?_
  refine Wp.eqh (h' := (hSet (hSet (hSet h a (waC la ka (upd (upd (upd (upd (upd (upd (upd (upd (upd (upd (upd (upd (upd w 24 (w2 24)) 11 (w2 11)) 10 (w2 10)) 0 (w2 0)) 1 (w2 1)) 2 (w2 2)) 3 (w2 3)) 4 (w2 4)) 5 (w2 5)) 6 (w2 6)) 7 (w2 7)) 8 (w2 8)) 9 (w2 9)))) la (arI 6 (va_cpy lf2 lf 0 0 6))) ka (arI 6 (va_cpy kf2 kf 0 0 6)))) (hSet_sw2 n_a_la n_a_ka) ?_
  subst er
  exact x_vret (pc := 134) dX3_copy_134 rfl rfl rfl ⟨rfl, rfl⟩

def l_X3_passes_6 : Nat → (Nat → Int32) → (Nat → Int32) → Int32 → Int32 → Int32 × Int32
  | 0, _, _, _, _ => (0, 0)
  | n + 1, w, lf, v2, v1 => (if (w 11) ≤ v2 then (v2, v1) else (l_X3_passes_6 n w lf (v2 + (1 : Int32)) (if (lf (v2.toNatClampNeg)) < v1 then (lf (v2.toNatClampNeg)) else v1)))
def q_X3_passes_6 : Nat → (Nat → Int32) → (Nat → Int32) → Int32 → Int32 → Prop
  | 0, _, _, _, _ => False
  | n + 1, w, lf, v2, v1 => (((w 11) ≤ v2 → True) ∧ (¬ ((w 11) ≤ v2) → (vp_in v2 6 ∧ (q_X3_passes_6 n w lf (v2 + (1 : Int32)) (if (lf (v2.toNatClampNeg)) < v1 then (lf (v2.toNatClampNeg)) else v1)))))
set_option maxRecDepth 100000 in
set_option maxHeartbeats 4000000 in
theorem L_X3_passes_6 (G : xG) (h : xH) (a la ka : Nat) (w lf : Nat → Int32) (k_a : hAt h a = some (waC la ka w)) (k_la : hAt h la = some (arI 6 lf)) {Z : xZ} : ∀ (n : Nat) (v2 : Int32) (v1 : Int32), q_X3_passes_6 n w lf v2 v1 → Wp G yX3_passes.cls cX3_passes 3 yX3_passes.name (some .int) (xR 1 0 0) Z 0 0 31 [(2, .int (l_X3_passes_6 n w lf v2 v1).1), (1, .int (l_X3_passes_6 n w lf v2 v1).2), (0, .ref a)] [] h → Wp G yX3_passes.cls cX3_passes 3 yX3_passes.name (some .int) (xR 1 0 0) Z 0 0 6 [(2, .int v2), (1, .int v1), (0, .ref a)] [] h := by
  intro n
  induction n with
  | zero => intro v2 v1 hp; exact absurd hp id
  | succ n ih =>
    intro v2 v1 hp kk
    obtain ⟨R, er⟩ : ∃ R, R = l_X3_passes_6 (n + 1) w lf v2 v1 := ⟨_, rfl⟩
    rw [← er] at kk
    rw [l_X3_passes_6] at er
    rw [q_X3_passes_6] at hp
    refine x_iload_n (pc := 6) dX3_passes_6 rfl ?_
    refine x_aload_n (pc := 7) dX3_passes_7 rfl ?_
    refine x_getf (pc := 8) (v := .int (w 11)) dX3_passes_8 xf_X3_22 k_a rfl ?_
    refine x_icmp_ge (pc := 11) (tgt := 31) dX3_passes_11 (by decide) (fun (c1 : (w 11) ≤ v2) => ?_) (fun (c1 : ¬ ((w 11) ≤ v2)) => ?_)
    · rw [if_pos c1] at er
      replace hp := hp.1 c1
      subst er
      exact kk
    · rw [if_neg c1] at er
      replace hp := hp.2 c1
      refine x_iload_n (pc := 14) dX3_passes_14 rfl ?_
      refine x_aload_n (pc := 15) dX3_passes_15 rfl ?_
      refine x_getf (pc := 16) (v := .ref la) dX3_passes_16 xf_X3_9 k_a rfl ?_
      refine x_iload_n (pc := 19) dX3_passes_19 rfl ?_
      obtain ⟨q20, hp⟩ := hp
      refine x_iald (pc := 20) dX3_passes_20 k_la q20 (j := (v2.toNatClampNeg)) rfl ?_
      refine x_min (pc := 21) dX3_passes_21 xl_X3_80 rfl rfl rfl rfl rfl ?_
      refine x_istore_n (pc := 24) (L' := [(1, .int (if (lf (v2.toNatClampNeg)) < v1 then (lf (v2.toNatClampNeg)) else v1)), (2, .int v2), (0, .ref a)]) dX3_passes_24 rfl rfl ?_
      refine x_iinc (pc := 25) (v := (v2 + (1 : Int32))) (L' := [(2, .int (v2 + (1 : Int32))), (1, .int (if (lf (v2.toNatClampNeg)) < v1 then (lf (v2.toNatClampNeg)) else v1)), (0, .ref a)]) dX3_passes_25 rfl rfl rfl rfl ?_
      refine x_goto (pc := 28) (tgt := 6) dX3_passes_28 (by decide) ?_
      subst er
      exact ih (v2 + (1 : Int32)) (if (lf (v2.toNatClampNeg)) < v1 then (lf (v2.toNatClampNeg)) else v1) hp kk
def f_X3_passes (w lf : Nat → Int32) : Int32 := (l_X3_passes_6 xK w lf (0 : Int32) (999 : Int32)).2
def p_X3_passes (w lf : Nat → Int32) : Prop := ((q_X3_passes_6 xK w lf (0 : Int32) (999 : Int32)) ∧ True)
set_option maxRecDepth 100000 in
set_option maxHeartbeats 4000000 in
theorem C_X3_passes (G : xG) (h : xH) (a la ka : Nat) (w lf : Nat → Int32) (k_a : hAt h a = some (waC la ka w)) (k_la : hAt h la = some (arI 6 lf)) (hp : p_X3_passes w lf) : Cd G 1 yX3_passes cX3_passes 3 (some .int) [.ref a] h (some (.int (f_X3_passes w lf))) h := by
  refine Ct.of (by decide) (by rfl) ?_
  refine Wp.eqs (L' := [(0, .ref a)]) (st' := []) rfl rfl ?_
  obtain ⟨R, er⟩ : ∃ R, R = f_X3_passes w lf := ⟨_, rfl⟩
  rw [← er]
  unfold f_X3_passes at er
  unfold p_X3_passes at hp
  refine x_sipush (pc := 0) (v := (999 : Int32)) dX3_passes_0 (by decide) ?_
  refine x_istore_n (pc := 3) (L' := [(1, .int (999 : Int32)), (0, .ref a)]) dX3_passes_3 rfl rfl ?_
  refine x_iconst (pc := 4) (v := (0 : Int32)) dX3_passes_4 (by decide) ?_
  refine x_istore_n (pc := 5) (L' := [(2, .int (0 : Int32)), (1, .int (999 : Int32)), (0, .ref a)]) dX3_passes_5 rfl rfl ?_
  obtain ⟨ql6, hp⟩ := hp
  refine L_X3_passes_6 G h a la ka w lf k_a k_la  xK (0 : Int32) (999 : Int32) ql6 ?_
  obtain ⟨F1, eF1⟩ : ∃ F, F = l_X3_passes_6 xK w lf (0 : Int32) (999 : Int32) := ⟨_, rfl⟩
  rw [← eF1]
  try rw [← eF1] at er
  try rw [← eF1] at hp
  refine x_iload_n (pc := 31) dX3_passes_31 rfl ?_
  subst er
  exact x_iret (pc := 32) dX3_passes_32 rfl rfl rfl rfl ⟨rfl, rfl⟩

def f_X3_tell (w lf : Nat → Int32) (what : Int32) : Int32 := (if what = (0 : Int32) then (w 0) else (if what = (1 : Int32) then (w 1) else (if what = (2 : Int32) then (w 2) else (if what = (3 : Int32) then (w 3) else (if what = (4 : Int32) then (w 4) else (if what = (5 : Int32) then (w 5) else (if what = (6 : Int32) then (w 6) else (if what = (7 : Int32) then (w 7) else (if what = (8 : Int32) then (w 8) else (if what = (9 : Int32) then (w 9) else (if what = (10 : Int32) then (f_X3_passes w lf) else (if what = (11 : Int32) then (w 11) else (if what = (12 : Int32) then (w 10) else (-1 : Int32))))))))))))))
def p_X3_tell (w lf : Nat → Int32) (what : Int32) : Prop := ((what = (0 : Int32) → True) ∧ (¬ (what = (0 : Int32)) → ((what = (1 : Int32) → True) ∧ (¬ (what = (1 : Int32)) → ((what = (2 : Int32) → True) ∧ (¬ (what = (2 : Int32)) → ((what = (3 : Int32) → True) ∧ (¬ (what = (3 : Int32)) → ((what = (4 : Int32) → True) ∧ (¬ (what = (4 : Int32)) → ((what = (5 : Int32) → True) ∧ (¬ (what = (5 : Int32)) → ((what = (6 : Int32) → True) ∧ (¬ (what = (6 : Int32)) → ((what = (7 : Int32) → True) ∧ (¬ (what = (7 : Int32)) → ((what = (8 : Int32) → True) ∧ (¬ (what = (8 : Int32)) → ((what = (9 : Int32) → True) ∧ (¬ (what = (9 : Int32)) → ((what = (10 : Int32) → (p_X3_passes w lf ∧ True)) ∧ (¬ (what = (10 : Int32)) → ((what = (11 : Int32) → True) ∧ (¬ (what = (11 : Int32)) → ((what = (12 : Int32) → True) ∧ (¬ (what = (12 : Int32)) → True))))))))))))))))))))))))))
set_option maxRecDepth 100000 in
set_option maxHeartbeats 4000000 in
theorem C_X3_tell (G : xG) (h : xH) (a la ka : Nat) (w lf : Nat → Int32) (what : Int32) (k_a : hAt h a = some (waC la ka w)) (k_la : hAt h la = some (arI 6 lf)) (hp : p_X3_tell w lf what) : Cd G 2 yX3_tell cX3_tell 2 (some .int) [.ref a, .int what] h (some (.int (f_X3_tell w lf what))) h := by
  refine Ct.of (by decide) (by rfl) ?_
  refine Wp.eqs (L' := [(0, .ref a), (1, .int what)]) (st' := []) rfl rfl ?_
  obtain ⟨R, er⟩ : ∃ R, R = f_X3_tell w lf what := ⟨_, rfl⟩
  rw [← er]
  unfold f_X3_tell at er
  unfold p_X3_tell at hp
  refine x_iload_n (pc := 0) dX3_tell_0 rfl ?_
  by_cases c1 : what = (0 : Int32)
  · rw [if_pos c1] at er
    replace hp := hp.1 c1
    refine x_tabIn (pc := 1) (off := 67) (tgt := 68) dX3_tell_1 (by rw [c1]; decide) (by rw [c1]; decide) (by rw [c1]; rfl) (by decide) ?_
    refine x_aload_n (pc := 68) dX3_tell_68 rfl ?_
    refine x_getf (pc := 69) (v := .int (w 0)) dX3_tell_69 xf_X3_33 k_a rfl ?_
    subst er
    exact x_iret (pc := 72) dX3_tell_72 rfl rfl rfl rfl ⟨rfl, rfl⟩
  rw [if_neg c1] at er
  replace hp := hp.2 c1
  by_cases c2 : what = (1 : Int32)
  · rw [if_pos c2] at er
    replace hp := hp.1 c2
    refine x_tabIn (pc := 1) (off := 72) (tgt := 73) dX3_tell_1 (by rw [c2]; decide) (by rw [c2]; decide) (by rw [c2]; rfl) (by decide) ?_
    refine x_aload_n (pc := 73) dX3_tell_73 rfl ?_
    refine x_getf (pc := 74) (v := .int (w 1)) dX3_tell_74 xf_X3_39 k_a rfl ?_
    subst er
    exact x_iret (pc := 77) dX3_tell_77 rfl rfl rfl rfl ⟨rfl, rfl⟩
  rw [if_neg c2] at er
  replace hp := hp.2 c2
  by_cases c3 : what = (2 : Int32)
  · rw [if_pos c3] at er
    replace hp := hp.1 c3
    refine x_tabIn (pc := 1) (off := 77) (tgt := 78) dX3_tell_1 (by rw [c3]; decide) (by rw [c3]; decide) (by rw [c3]; rfl) (by decide) ?_
    refine x_aload_n (pc := 78) dX3_tell_78 rfl ?_
    refine x_getf (pc := 79) (v := .int (w 2)) dX3_tell_79 xf_X3_46 k_a rfl ?_
    subst er
    exact x_iret (pc := 82) dX3_tell_82 rfl rfl rfl rfl ⟨rfl, rfl⟩
  rw [if_neg c3] at er
  replace hp := hp.2 c3
  by_cases c4 : what = (3 : Int32)
  · rw [if_pos c4] at er
    replace hp := hp.1 c4
    refine x_tabIn (pc := 1) (off := 82) (tgt := 83) dX3_tell_1 (by rw [c4]; decide) (by rw [c4]; decide) (by rw [c4]; rfl) (by decide) ?_
    refine x_aload_n (pc := 83) dX3_tell_83 rfl ?_
    refine x_getf (pc := 84) (v := .int (w 3)) dX3_tell_84 xf_X3_49 k_a rfl ?_
    subst er
    exact x_iret (pc := 87) dX3_tell_87 rfl rfl rfl rfl ⟨rfl, rfl⟩
  rw [if_neg c4] at er
  replace hp := hp.2 c4
  by_cases c5 : what = (4 : Int32)
  · rw [if_pos c5] at er
    replace hp := hp.1 c5
    refine x_tabIn (pc := 1) (off := 87) (tgt := 88) dX3_tell_1 (by rw [c5]; decide) (by rw [c5]; decide) (by rw [c5]; rfl) (by decide) ?_
    refine x_aload_n (pc := 88) dX3_tell_88 rfl ?_
    refine x_getf (pc := 89) (v := .int (w 4)) dX3_tell_89 xf_X3_52 k_a rfl ?_
    subst er
    exact x_iret (pc := 92) dX3_tell_92 rfl rfl rfl rfl ⟨rfl, rfl⟩
  rw [if_neg c5] at er
  replace hp := hp.2 c5
  by_cases c6 : what = (5 : Int32)
  · rw [if_pos c6] at er
    replace hp := hp.1 c6
    refine x_tabIn (pc := 1) (off := 92) (tgt := 93) dX3_tell_1 (by rw [c6]; decide) (by rw [c6]; decide) (by rw [c6]; rfl) (by decide) ?_
    refine x_aload_n (pc := 93) dX3_tell_93 rfl ?_
    refine x_getf (pc := 94) (v := .int (w 5)) dX3_tell_94 xf_X3_55 k_a rfl ?_
    subst er
    exact x_iret (pc := 97) dX3_tell_97 rfl rfl rfl rfl ⟨rfl, rfl⟩
  rw [if_neg c6] at er
  replace hp := hp.2 c6
  by_cases c7 : what = (6 : Int32)
  · rw [if_pos c7] at er
    replace hp := hp.1 c7
    refine x_tabIn (pc := 1) (off := 97) (tgt := 98) dX3_tell_1 (by rw [c7]; decide) (by rw [c7]; decide) (by rw [c7]; rfl) (by decide) ?_
    refine x_aload_n (pc := 98) dX3_tell_98 rfl ?_
    refine x_getf (pc := 99) (v := .int (w 6)) dX3_tell_99 xf_X3_58 k_a rfl ?_
    subst er
    exact x_iret (pc := 102) dX3_tell_102 rfl rfl rfl rfl ⟨rfl, rfl⟩
  rw [if_neg c7] at er
  replace hp := hp.2 c7
  by_cases c8 : what = (7 : Int32)
  · rw [if_pos c8] at er
    replace hp := hp.1 c8
    refine x_tabIn (pc := 1) (off := 102) (tgt := 103) dX3_tell_1 (by rw [c8]; decide) (by rw [c8]; decide) (by rw [c8]; rfl) (by decide) ?_
    refine x_aload_n (pc := 103) dX3_tell_103 rfl ?_
    refine x_getf (pc := 104) (v := .int (w 7)) dX3_tell_104 xf_X3_61 k_a rfl ?_
    subst er
    exact x_iret (pc := 107) dX3_tell_107 rfl rfl rfl rfl ⟨rfl, rfl⟩
  rw [if_neg c8] at er
  replace hp := hp.2 c8
  by_cases c9 : what = (8 : Int32)
  · rw [if_pos c9] at er
    replace hp := hp.1 c9
    refine x_tabIn (pc := 1) (off := 107) (tgt := 108) dX3_tell_1 (by rw [c9]; decide) (by rw [c9]; decide) (by rw [c9]; rfl) (by decide) ?_
    refine x_aload_n (pc := 108) dX3_tell_108 rfl ?_
    refine x_getf (pc := 109) (v := .int (w 8)) dX3_tell_109 xf_X3_64 k_a rfl ?_
    subst er
    exact x_iret (pc := 112) dX3_tell_112 rfl rfl rfl rfl ⟨rfl, rfl⟩
  rw [if_neg c9] at er
  replace hp := hp.2 c9
  by_cases c10 : what = (9 : Int32)
  · rw [if_pos c10] at er
    replace hp := hp.1 c10
    refine x_tabIn (pc := 1) (off := 112) (tgt := 113) dX3_tell_1 (by rw [c10]; decide) (by rw [c10]; decide) (by rw [c10]; rfl) (by decide) ?_
    refine x_aload_n (pc := 113) dX3_tell_113 rfl ?_
    refine x_getf (pc := 114) (v := .int (w 9)) dX3_tell_114 xf_X3_67 k_a rfl ?_
    subst er
    exact x_iret (pc := 117) dX3_tell_117 rfl rfl rfl rfl ⟨rfl, rfl⟩
  rw [if_neg c10] at er
  replace hp := hp.2 c10
  by_cases c11 : what = (10 : Int32)
  · rw [if_pos c11] at er
    replace hp := hp.1 c11
    refine x_tabIn (pc := 1) (off := 117) (tgt := 118) dX3_tell_1 (by rw [c11]; decide) (by rw [c11]; decide) (by rw [c11]; rfl) (by decide) ?_
    refine x_aload_n (pc := 118) dX3_tell_118 rfl ?_
    obtain ⟨q119, hp⟩ := hp
    refine x_cV0i (pc := 119) dX3_tell_119 xl_X3_76 xv_X3_passes k_a rfl (C_X3_passes G _ a la ka w lf k_a k_la q119) rfl rfl rfl ?_
    obtain ⟨F1, eF1⟩ : ∃ F, F = f_X3_passes w lf := ⟨_, rfl⟩
    rw [← eF1]
    try rw [← eF1] at er
    try rw [← eF1] at hp
    subst er
    exact x_iret (pc := 122) dX3_tell_122 rfl rfl rfl rfl ⟨rfl, rfl⟩
  rw [if_neg c11] at er
  replace hp := hp.2 c11
  by_cases c12 : what = (11 : Int32)
  · rw [if_pos c12] at er
    replace hp := hp.1 c12
    refine x_tabIn (pc := 1) (off := 122) (tgt := 123) dX3_tell_1 (by rw [c12]; decide) (by rw [c12]; decide) (by rw [c12]; rfl) (by decide) ?_
    refine x_aload_n (pc := 123) dX3_tell_123 rfl ?_
    refine x_getf (pc := 124) (v := .int (w 11)) dX3_tell_124 xf_X3_22 k_a rfl ?_
    subst er
    exact x_iret (pc := 127) dX3_tell_127 rfl rfl rfl rfl ⟨rfl, rfl⟩
  rw [if_neg c12] at er
  replace hp := hp.2 c12
  by_cases c13 : what = (12 : Int32)
  · rw [if_pos c13] at er
    replace hp := hp.1 c13
    refine x_tabIn (pc := 1) (off := 127) (tgt := 128) dX3_tell_1 (by rw [c13]; decide) (by rw [c13]; decide) (by rw [c13]; rfl) (by decide) ?_
    refine x_aload_n (pc := 128) dX3_tell_128 rfl ?_
    refine x_getf (pc := 129) (v := .int (w 10)) dX3_tell_129 xf_X3_25 k_a rfl ?_
    subst er
    exact x_iret (pc := 132) dX3_tell_132 rfl rfl rfl rfl ⟨rfl, rfl⟩
  rw [if_neg c13] at er
  replace hp := hp.2 c13
  refine x_tabOut (pc := 1) (tgt := 133) dX3_tell_1 (by have zc1 := xneL c1 (z := 0) rfl; have zc2 := xneL c2 (z := 1) rfl; have zc3 := xneL c3 (z := 2) rfl; have zc4 := xneL c4 (z := 3) rfl; have zc5 := xneL c5 (z := 4) rfl; have zc6 := xneL c6 (z := 5) rfl; have zc7 := xneL c7 (z := 6) rfl; have zc8 := xneL c8 (z := 7) rfl; have zc9 := xneL c9 (z := 8) rfl; have zc10 := xneL c10 (z := 9) rfl; have zc11 := xneL c11 (z := 10) rfl; have zc12 := xneL c12 (z := 11) rfl; have zc13 := xneL c13 (z := 12) rfl; omega) (by decide) ?_
  refine x_iconst (pc := 133) (v := (-1 : Int32)) dX3_tell_133 (by decide) ?_
  subst er
  exact x_iret (pc := 134) dX3_tell_134 rfl rfl rfl rfl ⟨rfl, rfl⟩

def f_X3_sought (w lf r : Nat → Int32) : Int32 := (if (r 0) < (if (f_X3_passes w lf) < (r 1) then (f_X3_passes w lf) else (r 1)) then (if (f_X3_passes w lf) < (r 1) then (f_X3_passes w lf) else (r 1)) else (r 0))
def p_X3_sought (w lf r : Nat → Int32) : Prop := (p_X3_passes w lf ∧ True)
set_option maxRecDepth 100000 in
set_option maxHeartbeats 4000000 in
theorem C_X3_sought (G : xG) (h : xH) (a rr la ka : Nat) (w lf r : Nat → Int32) (k_a : hAt h a = some (waC la ka w)) (k_la : hAt h la = some (arI 6 lf)) (k_rr : hAt h rr = some (ruC r)) (hp : p_X3_sought w lf r) : Cd G 2 yX3_sought cX3_sought 2 (some .int) [.ref a, .ref rr] h (some (.int (f_X3_sought w lf r))) h := by
  refine Ct.of (by decide) (by rfl) ?_
  refine Wp.eqs (L' := [(0, .ref a), (1, .ref rr)]) (st' := []) rfl rfl ?_
  obtain ⟨R, er⟩ : ∃ R, R = f_X3_sought w lf r := ⟨_, rfl⟩
  rw [← er]
  unfold f_X3_sought at er
  unfold p_X3_sought at hp
  refine x_aload_n (pc := 0) dX3_sought_0 rfl ?_
  refine x_getf (pc := 1) (v := .int (r 0)) dX3_sought_1 xf_X3_28 k_rr rfl ?_
  refine x_aload_n (pc := 4) dX3_sought_4 rfl ?_
  refine x_getf (pc := 5) (v := .int (r 1)) dX3_sought_5 xf_X3_36 k_rr rfl ?_
  refine x_aload_n (pc := 8) dX3_sought_8 rfl ?_
  obtain ⟨q9, hp⟩ := hp
  refine x_cV0i (pc := 9) dX3_sought_9 xl_X3_76 xv_X3_passes k_a rfl (C_X3_passes G _ a la ka w lf k_a k_la q9) rfl rfl rfl ?_
  obtain ⟨F1, eF1⟩ : ∃ F, F = f_X3_passes w lf := ⟨_, rfl⟩
  rw [← eF1]
  try rw [← eF1] at er
  try rw [← eF1] at hp
  refine x_min (pc := 12) dX3_sought_12 xl_X3_80 rfl rfl rfl rfl rfl ?_
  refine x_max (pc := 15) dX3_sought_15 xl_X3_86 rfl rfl rfl rfl rfl ?_
  subst er
  exact x_iret (pc := 18) dX3_sought_18 rfl rfl rfl rfl ⟨rfl, rfl⟩

def f_X3_drawn (w r : Nat → Int32) (k : Int32) : Int32 := ((((((((7919 : Int64) * ((r 4)).toInt64) + ((6151 : Int64) * ((w 24)).toInt64)) + ((3571 : Int64) * (k).toInt64)) + (1 : Int64)) * (((((7919 : Int64) * ((r 4)).toInt64) + ((6151 : Int64) * ((w 24)).toInt64)) + ((3571 : Int64) * (k).toInt64)) + (1 : Int64))) - ((((((7919 : Int64) * ((r 4)).toInt64) + ((6151 : Int64) * ((w 24)).toInt64)) + ((3571 : Int64) * (k).toInt64)) + (1 : Int64)) * (((((7919 : Int64) * ((r 4)).toInt64) + ((6151 : Int64) * ((w 24)).toInt64)) + ((3571 : Int64) * (k).toInt64)) + (1 : Int64))) / (65521 : Int64) * (65521 : Int64))).toInt32
set_option maxRecDepth 100000 in
set_option maxHeartbeats 4000000 in
theorem C_X3_drawn (G : xG) (h : xH) (a rr la ka : Nat) (w r : Nat → Int32) (k : Int32) (k_a : hAt h a = some (waC la ka w)) (k_rr : hAt h rr = some (ruC r)) : Cd G 0 yX3_drawn cX3_drawn 5 (some .int) [.ref a, .int k, .ref rr] h (some (.int (f_X3_drawn w r k))) h := by
  refine Ct.of (by decide) (by rfl) ?_
  refine Wp.eqs (L' := [(0, .ref a), (1, .int k), (2, .ref rr)]) (st' := []) rfl rfl ?_
  obtain ⟨R, er⟩ : ∃ R, R = f_X3_drawn w r k := ⟨_, rfl⟩
  rw [← er]
  unfold f_X3_drawn at er
  refine x_ldc2 (pc := 0) (v := (7919 : Int64)) dX3_drawn_0 xk_X3_89 ?_
  refine x_aload_n (pc := 3) dX3_drawn_3 rfl ?_
  refine x_getf (pc := 4) (v := .int (r 4)) dX3_drawn_4 xf_X3_91 k_rr rfl ?_
  refine x_i2l (pc := 7) dX3_drawn_7 ?_
  refine x_lmul (pc := 8) dX3_drawn_8 ?_
  refine x_ldc2 (pc := 9) (v := (6151 : Int64)) dX3_drawn_9 xk_X3_94 ?_
  refine x_aload_n (pc := 12) dX3_drawn_12 rfl ?_
  refine x_getf (pc := 13) (v := .int (w 24)) dX3_drawn_13 xf_X3_18 k_a rfl ?_
  refine x_i2l (pc := 16) dX3_drawn_16 ?_
  refine x_lmul (pc := 17) dX3_drawn_17 ?_
  refine x_ladd (pc := 18) dX3_drawn_18 ?_
  refine x_ldc2 (pc := 19) (v := (3571 : Int64)) dX3_drawn_19 xk_X3_96 ?_
  refine x_iload_n (pc := 22) dX3_drawn_22 rfl ?_
  refine x_i2l (pc := 23) dX3_drawn_23 ?_
  refine x_lmul (pc := 24) dX3_drawn_24 ?_
  refine x_ladd (pc := 25) dX3_drawn_25 ?_
  refine x_lconst (pc := 26) (v := (1 : Int64)) dX3_drawn_26 (by decide) ?_
  refine x_ladd (pc := 27) dX3_drawn_27 ?_
  refine x_lstore_n (pc := 28) (L' := [(3, .long (((((7919 : Int64) * ((r 4)).toInt64) + ((6151 : Int64) * ((w 24)).toInt64)) + ((3571 : Int64) * (k).toInt64)) + (1 : Int64))), (0, .ref a), (1, .int k), (2, .ref rr)]) dX3_drawn_28 rfl rfl ?_
  refine x_lload_n (pc := 29) dX3_drawn_29 rfl ?_
  refine x_lload_n (pc := 30) dX3_drawn_30 rfl ?_
  refine x_lmul (pc := 31) dX3_drawn_31 ?_
  refine x_ldc2 (pc := 32) (v := (65521 : Int64)) dX3_drawn_32 xk_X3_98 ?_
  refine x_lrem (pc := 35) dX3_drawn_35 (by decide) ?_
  refine x_l2i (pc := 36) dX3_drawn_36 ?_
  subst er
  exact x_iret (pc := 37) dX3_drawn_37 rfl rfl rfl rfl ⟨rfl, rfl⟩

def l_X3_dropper_2 : Nat → (Nat → Int32) → (Nat → Int32) → Int32 → Int32 → Int32
  | 0, _, _, _, _ => 0
  | n + 1, w, lf, size, v2 => (if (w 11) ≤ v2 then (-4 : Int32) else (if size ≤ (lf (v2.toNatClampNeg)) then (l_X3_dropper_2 n w lf size (v2 + (1 : Int32))) else v2))
def q_X3_dropper_2 : Nat → (Nat → Int32) → (Nat → Int32) → Int32 → Int32 → Prop
  | 0, _, _, _, _ => False
  | n + 1, w, lf, size, v2 => (((w 11) ≤ v2 → True) ∧ (¬ ((w 11) ≤ v2) → (vp_in v2 6 ∧ ((size ≤ (lf (v2.toNatClampNeg)) → (q_X3_dropper_2 n w lf size (v2 + (1 : Int32)))) ∧ (¬ (size ≤ (lf (v2.toNatClampNeg))) → True)))))
set_option maxRecDepth 100000 in
set_option maxHeartbeats 4000000 in
theorem L_X3_dropper_2 (G : xG) (h : xH) (a la ka : Nat) (w lf : Nat → Int32) (size : Int32) (k_a : hAt h a = some (waC la ka w)) (k_la : hAt h la = some (arI 6 lf)) : ∀ (n : Nat) (v2 : Int32), q_X3_dropper_2 n w lf size v2 → Wp G yX3_dropper.cls cX3_dropper 3 yX3_dropper.name (some .int) (xR 0 0 0) (xZd G (some (.int (l_X3_dropper_2 n w lf size v2))) h) 0 0 2 [(2, .int v2), (0, .ref a), (1, .int size)] [] h := by
  intro n
  induction n with
  | zero => intro v2 hp; exact absurd hp id
  | succ n ih =>
    intro v2 hp
    obtain ⟨R, er⟩ : ∃ R, R = l_X3_dropper_2 (n + 1) w lf size v2 := ⟨_, rfl⟩
    rw [← er]
    rw [l_X3_dropper_2] at er
    rw [q_X3_dropper_2] at hp
    refine x_iload_n (pc := 2) dX3_dropper_2 rfl ?_
    refine x_aload_n (pc := 3) dX3_dropper_3 rfl ?_
    refine x_getf (pc := 4) (v := .int (w 11)) dX3_dropper_4 xf_X3_22 k_a rfl ?_
    refine x_icmp_ge (pc := 7) (tgt := 28) dX3_dropper_7 (by decide) (fun (c1 : (w 11) ≤ v2) => ?_) (fun (c1 : ¬ ((w 11) ≤ v2)) => ?_)
    · rw [if_pos c1] at er
      replace hp := hp.1 c1
      refine x_bipush (pc := 28) (v := (-4 : Int32)) dX3_dropper_28 (by decide) ?_
      subst er
      exact x_iret (pc := 30) dX3_dropper_30 rfl rfl rfl rfl ⟨rfl, rfl⟩
    · rw [if_neg c1] at er
      replace hp := hp.2 c1
      refine x_aload_n (pc := 10) dX3_dropper_10 rfl ?_
      refine x_getf (pc := 11) (v := .ref la) dX3_dropper_11 xf_X3_9 k_a rfl ?_
      refine x_iload_n (pc := 14) dX3_dropper_14 rfl ?_
      obtain ⟨q15, hp⟩ := hp
      refine x_iald (pc := 15) dX3_dropper_15 k_la q15 (j := (v2.toNatClampNeg)) rfl ?_
      refine x_iload_n (pc := 16) dX3_dropper_16 rfl ?_
      refine x_icmp_ge (pc := 17) (tgt := 22) dX3_dropper_17 (by decide) (fun (c2 : size ≤ (lf (v2.toNatClampNeg))) => ?_) (fun (c2 : ¬ (size ≤ (lf (v2.toNatClampNeg)))) => ?_)
      · rw [if_pos c2] at er
        replace hp := hp.1 c2
        refine x_iinc (pc := 22) (v := (v2 + (1 : Int32))) (L' := [(2, .int (v2 + (1 : Int32))), (0, .ref a), (1, .int size)]) dX3_dropper_22 rfl rfl rfl rfl ?_
        refine x_goto (pc := 25) (tgt := 2) dX3_dropper_25 (by decide) ?_
        subst er
        exact ih (v2 + (1 : Int32)) hp
      · rw [if_neg c2] at er
        replace hp := hp.2 c2
        refine x_iload_n (pc := 20) dX3_dropper_20 rfl ?_
        subst er
        exact x_iret (pc := 21) dX3_dropper_21 rfl rfl rfl rfl ⟨rfl, rfl⟩
def f_X3_dropper (w lf : Nat → Int32) (size : Int32) : Int32 := (l_X3_dropper_2 xK w lf size (0 : Int32))
def p_X3_dropper (w lf : Nat → Int32) (size : Int32) : Prop := (q_X3_dropper_2 xK w lf size (0 : Int32))
set_option maxRecDepth 100000 in
set_option maxHeartbeats 4000000 in
theorem C_X3_dropper (G : xG) (h : xH) (a la ka : Nat) (w lf : Nat → Int32) (size : Int32) (k_a : hAt h a = some (waC la ka w)) (k_la : hAt h la = some (arI 6 lf)) (hp : p_X3_dropper w lf size) : Cd G 0 yX3_dropper cX3_dropper 3 (some .int) [.ref a, .int size] h (some (.int (f_X3_dropper w lf size))) h := by
  refine Ct.of (by decide) (by rfl) ?_
  refine Wp.eqs (L' := [(0, .ref a), (1, .int size)]) (st' := []) rfl rfl ?_
  obtain ⟨R, er⟩ : ∃ R, R = f_X3_dropper w lf size := ⟨_, rfl⟩
  rw [← er]
  unfold f_X3_dropper at er
  unfold p_X3_dropper at hp
  refine x_iconst (pc := 0) (v := (0 : Int32)) dX3_dropper_0 (by decide) ?_
  refine x_istore_n (pc := 1) (L' := [(2, .int (0 : Int32)), (0, .ref a), (1, .int size)]) dX3_dropper_1 rfl rfl ?_
  subst er
  exact L_X3_dropper_2 G h a la ka w lf size k_a k_la  xK (0 : Int32)  hp

def f_X3_meeting (w lf kf : Nat → Int32) (size : Int32) : Int32 := (if (f_X3_dropper w lf size) = (-4 : Int32) then (0 : Int32) else (if (kf ((f_X3_dropper w lf size).toNatClampNeg)) = (0 : Int32) then ((2 : Int32) + (lf ((f_X3_dropper w lf size).toNatClampNeg))) else (if (kf ((f_X3_dropper w lf size).toNatClampNeg)) = (1 : Int32) then ((2 : Int32) + (if (0 : Int32) < ((lf ((f_X3_dropper w lf size).toNatClampNeg)) - (40 : Int32)) then ((lf ((f_X3_dropper w lf size).toNatClampNeg)) - (40 : Int32)) else (0 : Int32))) else (if (kf ((f_X3_dropper w lf size).toNatClampNeg)) = (2 : Int32) then ((2 : Int32) + (size / (2 : Int32))) else (1 : Int32)))))
def p_X3_meeting (w lf kf : Nat → Int32) (size : Int32) : Prop := (p_X3_dropper w lf size ∧ (((f_X3_dropper w lf size) = (-4 : Int32) → True) ∧ (¬ ((f_X3_dropper w lf size) = (-4 : Int32)) → (vp_in (f_X3_dropper w lf size) 6 ∧ (((kf ((f_X3_dropper w lf size).toNatClampNeg)) = (0 : Int32) → (vp_in (f_X3_dropper w lf size) 6 ∧ True)) ∧ (¬ ((kf ((f_X3_dropper w lf size).toNatClampNeg)) = (0 : Int32)) → (((kf ((f_X3_dropper w lf size).toNatClampNeg)) = (1 : Int32) → (vp_in (f_X3_dropper w lf size) 6 ∧ True)) ∧ (¬ ((kf ((f_X3_dropper w lf size).toNatClampNeg)) = (1 : Int32)) → (((kf ((f_X3_dropper w lf size).toNatClampNeg)) = (2 : Int32) → True) ∧ (¬ ((kf ((f_X3_dropper w lf size).toNatClampNeg)) = (2 : Int32)) → True))))))))))
set_option maxRecDepth 100000 in
set_option maxHeartbeats 4000000 in
theorem C_X3_meeting (G : xG) (h : xH) (a la ka : Nat) (w lf kf : Nat → Int32) (size : Int32) (k_a : hAt h a = some (waC la ka w)) (k_la : hAt h la = some (arI 6 lf)) (k_ka : hAt h ka = some (arI 6 kf)) (hp : p_X3_meeting w lf kf size) : Cd G 1 yX3_meeting cX3_meeting 3 (some .int) [.ref a, .int size] h (some (.int (f_X3_meeting w lf kf size))) h := by
  refine Ct.of (by decide) (by rfl) ?_
  refine Wp.eqs (L' := [(0, .ref a), (1, .int size)]) (st' := []) rfl rfl ?_
  obtain ⟨R, er⟩ : ∃ R, R = f_X3_meeting w lf kf size := ⟨_, rfl⟩
  rw [← er]
  unfold f_X3_meeting at er
  unfold p_X3_meeting at hp
  refine x_aload_n (pc := 0) dX3_meeting_0 rfl ?_
  refine x_iload_n (pc := 1) dX3_meeting_1 rfl ?_
  obtain ⟨q2, hp⟩ := hp
  refine x_cV1i (pc := 2) dX3_meeting_2 xl_X3_100 xv_X3_dropper k_a rfl (C_X3_dropper G _ a la ka w lf size k_a k_la q2) rfl rfl rfl ?_
  obtain ⟨F1, eF1⟩ : ∃ F, F = f_X3_dropper w lf size := ⟨_, rfl⟩
  rw [← eF1]
  try rw [← eF1] at er
  try rw [← eF1] at hp
  refine x_istore_n (pc := 5) (L' := [(2, .int F1), (0, .ref a), (1, .int size)]) dX3_meeting_5 rfl rfl ?_
  refine x_iload_n (pc := 6) dX3_meeting_6 rfl ?_
  refine x_bipush (pc := 7) (v := (-4 : Int32)) dX3_meeting_7 (by decide) ?_
  refine x_icmp_ne (pc := 9) (tgt := 14) dX3_meeting_9 (by decide) (fun (c1 : ¬ (F1 = (-4 : Int32))) => ?_) (fun (c1 : F1 = (-4 : Int32)) => ?_)
  · rw [if_neg c1] at er
    replace hp := hp.2 c1
    refine x_aload_n (pc := 14) dX3_meeting_14 rfl ?_
    refine x_getf (pc := 15) (v := .ref ka) dX3_meeting_15 xf_X3_15 k_a rfl ?_
    refine x_iload_n (pc := 18) dX3_meeting_18 rfl ?_
    obtain ⟨q19, hp⟩ := hp
    refine x_iald (pc := 19) dX3_meeting_19 k_ka q19 (j := (F1.toNatClampNeg)) rfl ?_
    by_cases c2 : (kf (F1.toNatClampNeg)) = (0 : Int32)
    · rw [if_pos c2] at er
      replace hp := hp.1 c2
      refine x_tabIn (pc := 20) (off := 28) (tgt := 48) dX3_meeting_20 (by rw [c2]; decide) (by rw [c2]; decide) (by rw [c2]; rfl) (by decide) ?_
      refine x_iconst (pc := 48) (v := (2 : Int32)) dX3_meeting_48 (by decide) ?_
      refine x_aload_n (pc := 49) dX3_meeting_49 rfl ?_
      refine x_getf (pc := 50) (v := .ref la) dX3_meeting_50 xf_X3_9 k_a rfl ?_
      refine x_iload_n (pc := 53) dX3_meeting_53 rfl ?_
      obtain ⟨q54, hp⟩ := hp
      refine x_iald (pc := 54) dX3_meeting_54 k_la q54 (j := (F1.toNatClampNeg)) rfl ?_
      refine x_iadd (pc := 55) dX3_meeting_55 ?_
      subst er
      exact x_iret (pc := 56) dX3_meeting_56 rfl rfl rfl rfl ⟨rfl, rfl⟩
    rw [if_neg c2] at er
    replace hp := hp.2 c2
    by_cases c3 : (kf (F1.toNatClampNeg)) = (1 : Int32)
    · rw [if_pos c3] at er
      replace hp := hp.1 c3
      refine x_tabIn (pc := 20) (off := 37) (tgt := 57) dX3_meeting_20 (by rw [c3]; decide) (by rw [c3]; decide) (by rw [c3]; rfl) (by decide) ?_
      refine x_iconst (pc := 57) (v := (2 : Int32)) dX3_meeting_57 (by decide) ?_
      refine x_iconst (pc := 58) (v := (0 : Int32)) dX3_meeting_58 (by decide) ?_
      refine x_aload_n (pc := 59) dX3_meeting_59 rfl ?_
      refine x_getf (pc := 60) (v := .ref la) dX3_meeting_60 xf_X3_9 k_a rfl ?_
      refine x_iload_n (pc := 63) dX3_meeting_63 rfl ?_
      obtain ⟨q64, hp⟩ := hp
      refine x_iald (pc := 64) dX3_meeting_64 k_la q64 (j := (F1.toNatClampNeg)) rfl ?_
      refine x_bipush (pc := 65) (v := (40 : Int32)) dX3_meeting_65 (by decide) ?_
      refine x_isub (pc := 67) dX3_meeting_67 ?_
      refine x_max (pc := 68) dX3_meeting_68 xl_X3_86 rfl rfl rfl rfl rfl ?_
      refine x_iadd (pc := 71) dX3_meeting_71 ?_
      subst er
      exact x_iret (pc := 72) dX3_meeting_72 rfl rfl rfl rfl ⟨rfl, rfl⟩
    rw [if_neg c3] at er
    replace hp := hp.2 c3
    by_cases c4 : (kf (F1.toNatClampNeg)) = (2 : Int32)
    · rw [if_pos c4] at er
      replace hp := hp.1 c4
      refine x_tabIn (pc := 20) (off := 53) (tgt := 73) dX3_meeting_20 (by rw [c4]; decide) (by rw [c4]; decide) (by rw [c4]; rfl) (by decide) ?_
      refine x_iconst (pc := 73) (v := (2 : Int32)) dX3_meeting_73 (by decide) ?_
      refine x_iload_n (pc := 74) dX3_meeting_74 rfl ?_
      refine x_iconst (pc := 75) (v := (2 : Int32)) dX3_meeting_75 (by decide) ?_
      refine x_idiv (pc := 76) dX3_meeting_76 (by decide) ?_
      refine x_iadd (pc := 77) dX3_meeting_77 ?_
      subst er
      exact x_iret (pc := 78) dX3_meeting_78 rfl rfl rfl rfl ⟨rfl, rfl⟩
    rw [if_neg c4] at er
    replace hp := hp.2 c4
    refine x_tabOut (pc := 20) (tgt := 79) dX3_meeting_20 (by have zc2 := xneL c2 (z := 0) rfl; have zc3 := xneL c3 (z := 1) rfl; have zc4 := xneL c4 (z := 2) rfl; omega) (by decide) ?_
    refine x_iconst (pc := 79) (v := (1 : Int32)) dX3_meeting_79 (by decide) ?_
    subst er
    exact x_iret (pc := 80) dX3_meeting_80 rfl rfl rfl rfl ⟨rfl, rfl⟩
  · rw [if_pos c1] at er
    replace hp := hp.1 c1
    refine x_iconst (pc := 12) (v := (0 : Int32)) dX3_meeting_12 (by decide) ?_
    subst er
    exact x_iret (pc := 13) dX3_meeting_13 rfl rfl rfl rfl ⟨rfl, rfl⟩

def g_X3_isLost_2 (r : (Nat → Int32)) (met : Int32) (size : Int32) : Int32 := (if met = (1 : Int32) then (1 : Int32) else (if met < (2 : Int32) then (0 : Int32) else (if (f_X1_trusts r (met - (2 : Int32)) size) = 0 then (1 : Int32) else (0 : Int32))))
theorem Bg_X3_isLost_2 (r : (Nat → Int32)) (met : Int32) (size : Int32) : xB (g_X3_isLost_2 r met size) := by
  unfold g_X3_isLost_2
  exact (xB_ite xB1 (xB_ite xB0 (xB_ite xB1 xB0)))
def f_X3_isLost (w r : Nat → Int32) (met size : Int32) : Int32 := (g_X3_isLost_2 r met size)
set_option maxRecDepth 100000 in
set_option maxHeartbeats 4000000 in
theorem C_X3_isLost (G : xG) (h : xH) (a rr la ka : Nat) (w r : Nat → Int32) (met size : Int32) (k_a : hAt h a = some (waC la ka w)) (k_rr : hAt h rr = some (ruC r)) : Cd G 1 yX3_isLost cX3_isLost 4 (some .boolean) [.ref a, .int met, .int size, .ref rr] h (some (.int (f_X3_isLost w r met size))) h := by
  refine Ct.of (by decide) (by rfl) ?_
  refine Wp.eqs (L' := [(0, .ref a), (1, .int met), (2, .int size), (3, .ref rr)]) (st' := []) rfl rfl ?_
  obtain ⟨R, er⟩ : ∃ R, R = f_X3_isLost w r met size := ⟨_, rfl⟩
  rw [← er]
  unfold f_X3_isLost at er
  refine x_iload_n (pc := 0) dX3_isLost_0 rfl ?_
  refine x_iconst (pc := 1) (v := (1 : Int32)) dX3_isLost_1 (by decide) ?_
  obtain ⟨F3, eF3⟩ : ∃ F, F = g_X3_isLost_2 r met size := ⟨_, rfl⟩
  try rw [← eF3] at er
  have bF3 : xB F3 := by rw [eF3]; exact (Bg_X3_isLost_2 _ _ _)
  refine x_mrg (pc' := 26) (L' := [(0, .ref a), (1, .int met), (2, .int size), (3, .ref rr)]) (st' := [.int F3]) (h' := h) (fun J => ?_) ?_
  · unfold g_X3_isLost_2 at eF3
    refine x_icmp_eq (pc := 2) (tgt := 21) dX3_isLost_2 (by decide) (fun (c4 : met = (1 : Int32)) => ?_) (fun (c4 : ¬ (met = (1 : Int32))) => ?_)
    · rw [if_pos c4] at eF3
      refine x_iconst (pc := 21) (v := (1 : Int32)) dX3_isLost_21 (by decide) ?_
      refine x_goto (pc := 22) (tgt := 26) dX3_isLost_22 (by decide) ?_
      subst eF3
      exact J
    · rw [if_neg c4] at eF3
      refine x_iload_n (pc := 5) dX3_isLost_5 rfl ?_
      refine x_iconst (pc := 6) (v := (2 : Int32)) dX3_isLost_6 (by decide) ?_
      refine x_icmp_lt (pc := 7) (tgt := 25) dX3_isLost_7 (by decide) (fun (c5 : met < (2 : Int32)) => ?_) (fun (c5 : ¬ (met < (2 : Int32))) => ?_)
      · rw [if_pos c5] at eF3
        refine x_iconst (pc := 25) (v := (0 : Int32)) dX3_isLost_25 (by decide) ?_
        subst eF3
        exact J
      · rw [if_neg c5] at eF3
        refine x_aload_n (pc := 10) dX3_isLost_10 rfl ?_
        refine x_iload_n (pc := 11) dX3_isLost_11 rfl ?_
        refine x_iconst (pc := 12) (v := (2 : Int32)) dX3_isLost_12 (by decide) ?_
        refine x_isub (pc := 13) dX3_isLost_13 ?_
        refine x_iload_n (pc := 14) dX3_isLost_14 rfl ?_
        refine x_cV2i (pc := 15) dX3_isLost_15 xl_X3_115 xv_X1_trusts k_rr rfl (C_X1_trusts G _ rr r (met - (2 : Int32)) size k_rr) rfl rfl rfl ?_
        obtain ⟨F2, eF2⟩ : ∃ F, F = f_X1_trusts r (met - (2 : Int32)) size := ⟨_, rfl⟩
        rw [← eF2]
        try rw [← eF2] at eF3
        have bF2 : xB F2 := by rw [eF2]; exact (B_X1_trusts _ _ _)
        refine x_if_ne (pc := 18) (tgt := 25) dX3_isLost_18 (by decide) (fun (c6 : ¬ (F2 = 0)) => ?_) (fun (c6 : F2 = 0) => ?_)
        · rw [if_neg c6] at eF3
          refine x_iconst (pc := 25) (v := (0 : Int32)) dX3_isLost_25 (by decide) ?_
          subst eF3
          exact J
        · rw [if_pos c6] at eF3
          refine x_iconst (pc := 21) (v := (1 : Int32)) dX3_isLost_21 (by decide) ?_
          refine x_goto (pc := 22) (tgt := 26) dX3_isLost_22 (by decide) ?_
          subst eF3
          exact J
  subst er
  exact x_iret (pc := 26) dX3_isLost_26 rfl (xb_nar bF3) rfl rfl ⟨rfl, rfl⟩
theorem B_X3_isLost (w r : Nat → Int32) (met size : Int32) : xB (f_X3_isLost w r met size) := by
  unfold f_X3_isLost
  exact (Bg_X3_isLost_2 _ _ _)

def g_X3_post_26 (w : (Nat → Int32)) (lf : (Nat → Int32)) (kf : (Nat → Int32)) (size : Int32) (v3 : Int32) : Int32 := (if v3 = 0 then (f_X3_meeting w lf kf size) else (1 : Int32))
def h_X3_post_26 (w : (Nat → Int32)) (lf : (Nat → Int32)) (kf : (Nat → Int32)) (size : Int32) (v3 : Int32) : Prop := ((v3 = 0 → (p_X3_meeting w lf kf size ∧ True)) ∧ (¬ (v3 = 0) → True))
def g_X3_post_58 (v4 : Int32) (x_a : (Nat → Int32)) (y0 : Int32) : (Nat → Int32) := (if y0 = 0 then (if v4 < (2 : Int32) then x_a else (upd x_a 9 ((x_a 9) + (1 : Int32)))) else (upd x_a 8 ((x_a 8) + (1 : Int32))))
def f_X3_post (w lf kf r : Nat → Int32) (size : Int32) : Int32 × (Nat → Int32) := ((g_X3_post_26 w lf kf size (if (w 10) ≤ ((f_X3_drawn w r (w 7)) - (f_X3_drawn w r (w 7)) / (100 : Int32) * (100 : Int32)) then (0 : Int32) else (1 : Int32))), (g_X3_post_58 (g_X3_post_26 w lf kf size (if (w 10) ≤ ((f_X3_drawn w r (w 7)) - (f_X3_drawn w r (w 7)) / (100 : Int32) * (100 : Int32)) then (0 : Int32) else (1 : Int32))) (upd w 7 ((w 7) + (1 : Int32))) (f_X3_isLost (upd w 7 ((w 7) + (1 : Int32))) r (g_X3_post_26 w lf kf size (if (w 10) ≤ ((f_X3_drawn w r (w 7)) - (f_X3_drawn w r (w 7)) / (100 : Int32) * (100 : Int32)) then (0 : Int32) else (1 : Int32))) size)))
def p_X3_post (w lf kf r : Nat → Int32) (size : Int32) : Prop := ((h_X3_post_26 w lf kf size (if (w 10) ≤ ((f_X3_drawn w r (w 7)) - (f_X3_drawn w r (w 7)) / (100 : Int32) * (100 : Int32)) then (0 : Int32) else (1 : Int32))) ∧ True)
set_option maxRecDepth 100000 in
set_option maxHeartbeats 4000000 in
theorem C_X3_post (G : xG) (h : xH) (a rr la ka : Nat) (w lf kf r : Nat → Int32) (size : Int32) (k_a : hAt h a = some (waC la ka w)) (k_la : hAt h la = some (arI 6 lf)) (k_ka : hAt h ka = some (arI 6 kf)) (k_rr : hAt h rr = some (ruC r)) (hp : p_X3_post w lf kf r size) : Cd G 2 yX3_post cX3_post 5 (some .int) [.ref a, .int size, .ref rr] h (some (.int (f_X3_post w lf kf r size).1)) (hSet h a (waC la ka (f_X3_post w lf kf r size).2)) := by
  have n_ka_a : ka ≠ a := hne_k k_ka k_a rfl
  have n_la_a : la ≠ a := hne_k k_la k_a rfl
  have n_rr_a : rr ≠ a := hne_k k_rr k_a rfl
  refine Ct.of (by decide) (by rfl) ?_
  refine Wp.eqs (L' := [(0, .ref a), (1, .int size), (2, .ref rr)]) (st' := []) rfl rfl ?_
  refine Wp.eqh (h' := (hSet h a (waC la ka w))) (by rw [hSet_self k_a]) ?_
  obtain ⟨R, er⟩ : ∃ R, R = f_X3_post w lf kf r size := ⟨_, rfl⟩
  rw [← er]
  unfold f_X3_post at er
  unfold p_X3_post at hp
  refine x_aload_n (pc := 0) dX3_post_0 rfl ?_
  refine x_aload_n (pc := 1) dX3_post_1 rfl ?_
  refine x_getf (pc := 2) (v := .int (w 7)) dX3_post_2 xf_X3_61 hAt_same rfl ?_
  refine x_aload_n (pc := 5) dX3_post_5 rfl ?_
  refine x_cV2i (pc := 6) dX3_post_6 xl_X3_104 xv_X3_drawn hAt_same rfl (C_X3_drawn G _ a rr la ka w r (w 7) hAt_same (hAt_n n_rr_a k_rr)) rfl rfl rfl ?_
  obtain ⟨F1, eF1⟩ : ∃ F, F = f_X3_drawn w r (w 7) := ⟨_, rfl⟩
  rw [← eF1]
  try rw [← eF1] at er
  try rw [← eF1] at hp
  refine x_bipush (pc := 9) (v := (100 : Int32)) dX3_post_9 (by decide) ?_
  refine x_irem (pc := 11) dX3_post_11 (by decide) ?_
  refine x_aload_n (pc := 12) dX3_post_12 rfl ?_
  refine x_getf (pc := 13) (v := .int (w 10)) dX3_post_13 xf_X3_25 hAt_same rfl ?_
  refine x_mrg (pc' := 24) (L' := [(0, .ref a), (1, .int size), (2, .ref rr)]) (st' := [.int (if (w 10) ≤ (F1 - F1 / (100 : Int32) * (100 : Int32)) then (0 : Int32) else (1 : Int32))]) (h' := (hSet h a (waC la ka w))) (fun J => ?_) ?_
  · refine x_icmp_ge (pc := 16) (tgt := 23) dX3_post_16 (by decide) (fun (c1 : (w 10) ≤ (F1 - F1 / (100 : Int32) * (100 : Int32))) => ?_) (fun (c1 : ¬ ((w 10) ≤ (F1 - F1 / (100 : Int32) * (100 : Int32)))) => ?_)
    · refine x_iconst (pc := 23) (v := (0 : Int32)) dX3_post_23 (by decide) ?_
      rw [if_pos c1] at J
      exact J
    · refine x_iconst (pc := 19) (v := (1 : Int32)) dX3_post_19 (by decide) ?_
      refine x_goto (pc := 20) (tgt := 24) dX3_post_20 (by decide) ?_
      rw [if_neg c1] at J
      exact J
  refine x_istore_n (pc := 24) (L' := [(3, .int (if (w 10) ≤ (F1 - F1 / (100 : Int32) * (100 : Int32)) then (0 : Int32) else (1 : Int32))), (0, .ref a), (1, .int size), (2, .ref rr)]) dX3_post_24 rfl rfl ?_
  refine x_iload_n (pc := 25) dX3_post_25 rfl ?_
  obtain ⟨qr26, hp⟩ := hp
  obtain ⟨F4, eF4⟩ : ∃ F, F = g_X3_post_26 w lf kf size (if (w 10) ≤ (F1 - F1 / (100 : Int32) * (100 : Int32)) then (0 : Int32) else (1 : Int32)) := ⟨_, rfl⟩
  try rw [← eF4] at er
  try rw [← eF4] at hp
  refine x_mrg (pc' := 38) (L' := [(3, .int (if (w 10) ≤ (F1 - F1 / (100 : Int32) * (100 : Int32)) then (0 : Int32) else (1 : Int32))), (0, .ref a), (1, .int size), (2, .ref rr)]) (st' := [.int F4]) (h' := (hSet h a (waC la ka w))) (fun J => ?_) ?_
  · unfold g_X3_post_26 at eF4
    unfold h_X3_post_26 at qr26
    try rw [← eF1] at eF4
    try rw [← eF1] at qr26
    refine x_if_eq (pc := 26) (tgt := 33) dX3_post_26 (by decide) (fun (c3 : (if (w 10) ≤ (F1 - F1 / (100 : Int32) * (100 : Int32)) then (0 : Int32) else (1 : Int32)) = 0) => ?_) (fun (c3 : ¬ ((if (w 10) ≤ (F1 - F1 / (100 : Int32) * (100 : Int32)) then (0 : Int32) else (1 : Int32)) = 0)) => ?_)
    · rw [if_pos c3] at eF4
      replace qr26 := qr26.1 c3
      refine x_aload_n (pc := 33) dX3_post_33 rfl ?_
      refine x_iload_n (pc := 34) dX3_post_34 rfl ?_
      obtain ⟨q35, qr26⟩ := qr26
      refine x_cV1i (pc := 35) dX3_post_35 xl_X3_108 xv_X3_meeting hAt_same rfl (C_X3_meeting G _ a la ka w lf kf size hAt_same (hAt_n n_la_a k_la) (hAt_n n_ka_a k_ka) q35) rfl rfl rfl ?_
      obtain ⟨F3, eF3⟩ : ∃ F, F = f_X3_meeting w lf kf size := ⟨_, rfl⟩
      rw [← eF3]
      try rw [← eF3] at eF4
      try rw [← eF3] at qr26
      subst eF4
      exact J
    · rw [if_neg c3] at eF4
      replace qr26 := qr26.2 c3
      refine x_iconst (pc := 29) (v := (1 : Int32)) dX3_post_29 (by decide) ?_
      refine x_goto (pc := 30) (tgt := 38) dX3_post_30 (by decide) ?_
      subst eF4
      exact J
  refine x_istore (pc := 38) (L' := [(4, .int F4), (3, .int (if (w 10) ≤ (F1 - F1 / (100 : Int32) * (100 : Int32)) then (0 : Int32) else (1 : Int32))), (0, .ref a), (1, .int size), (2, .ref rr)]) dX3_post_38 rfl rfl ?_
  refine x_aload_n (pc := 40) dX3_post_40 rfl ?_
  refine x_dup (pc := 41) dX3_post_41 rfl ?_
  refine x_getf (pc := 42) (v := .int (w 7)) dX3_post_42 xf_X3_61 hAt_same rfl ?_
  refine x_iconst (pc := 45) (v := (1 : Int32)) dX3_post_45 (by decide) ?_
  refine x_iadd (pc := 46) dX3_post_46 ?_
  refine x_putf (pc := 47) (e' := waC la ka (upd w 7 ((w 7) + (1 : Int32)))) dX3_post_47 xf_X3_61 hAt_same rfl rfl rfl rfl ?_
  refine Wp.eqh (h' := (hSet h a (waC la ka (upd w 7 ((w 7) + (1 : Int32)))))) (hSet_set) ?_
  refine x_aload_n (pc := 50) dX3_post_50 rfl ?_
  refine x_iload (pc := 51) dX3_post_51 rfl ?_
  refine x_iload_n (pc := 53) dX3_post_53 rfl ?_
  refine x_aload_n (pc := 54) dX3_post_54 rfl ?_
  refine x_cV3i (pc := 55) dX3_post_55 xl_X3_111 xv_X3_isLost hAt_same rfl (C_X3_isLost G _ a rr la ka (upd w 7 ((w 7) + (1 : Int32))) r F4 size hAt_same (hAt_n n_rr_a k_rr)) rfl rfl rfl ?_
  obtain ⟨F5, eF5⟩ : ∃ F, F = f_X3_isLost (upd w 7 ((w 7) + (1 : Int32))) r F4 size := ⟨_, rfl⟩
  rw [← eF5]
  try rw [← eF5] at er
  try rw [← eF5] at hp
  have bF5 : xB F5 := by rw [eF5]; exact (B_X3_isLost _ _ _ _)
  obtain ⟨F6, eF6⟩ : ∃ F, F = g_X3_post_58 F4 (upd w 7 ((w 7) + (1 : Int32))) F5 := ⟨_, rfl⟩
  try rw [← eF6] at er
  try rw [← eF6] at hp
  refine x_mrg (pc' := 90) (L' := [(4, .int F4), (3, .int (if (w 10) ≤ (F1 - F1 / (100 : Int32) * (100 : Int32)) then (0 : Int32) else (1 : Int32))), (0, .ref a), (1, .int size), (2, .ref rr)]) (st' := []) (h' := (hSet h a (waC la ka F6))) (fun J => ?_) ?_
  · unfold g_X3_post_58 at eF6
    try rw [← eF1] at eF6
    try rw [← eF5] at eF6
    refine x_if_eq (pc := 58) (tgt := 74) dX3_post_58 (by decide) (fun (c6 : F5 = 0) => ?_) (fun (c6 : ¬ (F5 = 0)) => ?_)
    · rw [if_pos c6] at eF6
      refine x_iload (pc := 74) dX3_post_74 rfl ?_
      refine x_iconst (pc := 76) (v := (2 : Int32)) dX3_post_76 (by decide) ?_
      refine x_icmp_lt (pc := 77) (tgt := 90) dX3_post_77 (by decide) (fun (c7 : F4 < (2 : Int32)) => ?_) (fun (c7 : ¬ (F4 < (2 : Int32))) => ?_)
      · rw [if_pos c7] at eF6
        subst eF6
        exact J
      · rw [if_neg c7] at eF6
        refine x_aload_n (pc := 80) dX3_post_80 rfl ?_
        refine x_dup (pc := 81) dX3_post_81 rfl ?_
        refine x_getf (pc := 82) (v := .int ((upd w 7 ((w 7) + (1 : Int32))) 9)) dX3_post_82 xf_X3_67 hAt_same rfl ?_
        refine x_iconst (pc := 85) (v := (1 : Int32)) dX3_post_85 (by decide) ?_
        refine x_iadd (pc := 86) dX3_post_86 ?_
        refine x_putf (pc := 87) (e' := waC la ka (upd (upd w 7 ((w 7) + (1 : Int32))) 9 (((upd w 7 ((w 7) + (1 : Int32))) 9) + (1 : Int32)))) dX3_post_87 xf_X3_67 hAt_same rfl rfl rfl rfl ?_
        refine Wp.eqh (h' := (hSet h a (waC la ka (upd (upd w 7 ((w 7) + (1 : Int32))) 9 (((upd w 7 ((w 7) + (1 : Int32))) 9) + (1 : Int32)))))) (hSet_set) ?_
        subst eF6
        exact J
    · rw [if_neg c6] at eF6
      refine x_aload_n (pc := 61) dX3_post_61 rfl ?_
      refine x_dup (pc := 62) dX3_post_62 rfl ?_
      refine x_getf (pc := 63) (v := .int ((upd w 7 ((w 7) + (1 : Int32))) 8)) dX3_post_63 xf_X3_64 hAt_same rfl ?_
      refine x_iconst (pc := 66) (v := (1 : Int32)) dX3_post_66 (by decide) ?_
      refine x_iadd (pc := 67) dX3_post_67 ?_
      refine x_putf (pc := 68) (e' := waC la ka (upd (upd w 7 ((w 7) + (1 : Int32))) 8 (((upd w 7 ((w 7) + (1 : Int32))) 8) + (1 : Int32)))) dX3_post_68 xf_X3_64 hAt_same rfl rfl rfl rfl ?_
      refine Wp.eqh (h' := (hSet h a (waC la ka (upd (upd w 7 ((w 7) + (1 : Int32))) 8 (((upd w 7 ((w 7) + (1 : Int32))) 8) + (1 : Int32)))))) (hSet_set) ?_
      refine x_goto (pc := 71) (tgt := 90) dX3_post_71 (by decide) ?_
      subst eF6
      exact J
  refine x_iload (pc := 90) dX3_post_90 rfl ?_
  subst er
  exact x_iret (pc := 92) dX3_post_92 rfl rfl rfl rfl ⟨rfl, rfl⟩

def g_X3_lowerHigh_5 (w : (Nat → Int32)) (told : Int32) (y0 : Int32) : (Nat → Int32) := (if y0 ≤ told then w else (upd w 1 (if told < (w 0) then (w 0) else told)))
def f_X3_lowerHigh (w : Nat → Int32) (told : Int32) : (Nat → Int32) := (g_X3_lowerHigh_5 w told (w 1))
set_option maxRecDepth 100000 in
set_option maxHeartbeats 4000000 in
theorem C_X3_lowerHigh (G : xG) (h : xH) (a la ka : Nat) (w : Nat → Int32) (told : Int32) (k_a : hAt h a = some (waC la ka w)) : Cd G 1 yX3_lowerHigh cX3_lowerHigh 2 none [.ref a, .int told] h none (hSet h a (waC la ka (f_X3_lowerHigh w told))) := by
  refine Ct.of (by decide) (by rfl) ?_
  refine Wp.eqs (L' := [(0, .ref a), (1, .int told)]) (st' := []) rfl rfl ?_
  refine Wp.eqh (h' := (hSet h a (waC la ka w))) (by rw [hSet_self k_a]) ?_
  obtain ⟨R, er⟩ : ∃ R, R = f_X3_lowerHigh w told := ⟨_, rfl⟩
  rw [← er]
  unfold f_X3_lowerHigh at er
  refine x_iload_n (pc := 0) dX3_lowerHigh_0 rfl ?_
  refine x_aload_n (pc := 1) dX3_lowerHigh_1 rfl ?_
  refine x_getf (pc := 2) (v := .int (w 1)) dX3_lowerHigh_2 xf_X3_39 hAt_same rfl ?_
  obtain ⟨F1, eF1⟩ : ∃ F, F = g_X3_lowerHigh_5 w told (w 1) := ⟨_, rfl⟩
  try rw [← eF1] at er
  refine x_mrg (pc' := 20) (L' := [(0, .ref a), (1, .int told)]) (st' := []) (h' := (hSet h a (waC la ka F1))) (fun J => ?_) ?_
  · unfold g_X3_lowerHigh_5 at eF1
    refine x_icmp_ge (pc := 5) (tgt := 20) dX3_lowerHigh_5 (by decide) (fun (c2 : (w 1) ≤ told) => ?_) (fun (c2 : ¬ ((w 1) ≤ told)) => ?_)
    · rw [if_pos c2] at eF1
      subst eF1
      exact J
    · rw [if_neg c2] at eF1
      refine x_aload_n (pc := 8) dX3_lowerHigh_8 rfl ?_
      refine x_iload_n (pc := 9) dX3_lowerHigh_9 rfl ?_
      refine x_aload_n (pc := 10) dX3_lowerHigh_10 rfl ?_
      refine x_getf (pc := 11) (v := .int (w 0)) dX3_lowerHigh_11 xf_X3_33 hAt_same rfl ?_
      refine x_max (pc := 14) dX3_lowerHigh_14 xl_X3_86 rfl rfl rfl rfl rfl ?_
      refine x_putf (pc := 17) (e' := waC la ka (upd w 1 (if told < (w 0) then (w 0) else told))) dX3_lowerHigh_17 xf_X3_39 hAt_same rfl rfl rfl rfl ?_
      refine Wp.eqh (h' := (hSet h a (waC la ka (upd w 1 (if told < (w 0) then (w 0) else told))))) (hSet_set) ?_
      subst eF1
      exact J
  subst er
  exact x_vret (pc := 20) dX3_lowerHigh_20 rfl rfl rfl ⟨rfl, rfl⟩

def g_X3_growOlder_18 (r : (Nat → Int32)) (x_a : (Nat → Int32)) (y0 : Int32) (y1 : Int32) : (Nat → Int32) := (if y0 < y1 then x_a else (upd (upd x_a 5 (0 : Int32)) 1 (r 1)))
def f_X3_growOlder (w r : Nat → Int32) : (Nat → Int32) := (g_X3_growOlder_18 r (upd w 5 ((w 5) + (1 : Int32))) ((upd w 5 ((w 5) + (1 : Int32))) 5) (r 2))
set_option maxRecDepth 100000 in
set_option maxHeartbeats 4000000 in
theorem C_X3_growOlder (G : xG) (h : xH) (a rr la ka : Nat) (w r : Nat → Int32) (k_a : hAt h a = some (waC la ka w)) (k_rr : hAt h rr = some (ruC r)) : Cd G 0 yX3_growOlder cX3_growOlder 2 none [.ref a, .ref rr] h none (hSet h a (waC la ka (f_X3_growOlder w r))) := by
  have n_rr_a : rr ≠ a := hne_k k_rr k_a rfl
  refine Ct.of (by decide) (by rfl) ?_
  refine Wp.eqs (L' := [(0, .ref a), (1, .ref rr)]) (st' := []) rfl rfl ?_
  refine Wp.eqh (h' := (hSet h a (waC la ka w))) (by rw [hSet_self k_a]) ?_
  obtain ⟨R, er⟩ : ∃ R, R = f_X3_growOlder w r := ⟨_, rfl⟩
  rw [← er]
  unfold f_X3_growOlder at er
  refine x_aload_n (pc := 0) dX3_growOlder_0 rfl ?_
  refine x_dup (pc := 1) dX3_growOlder_1 rfl ?_
  refine x_getf (pc := 2) (v := .int (w 5)) dX3_growOlder_2 xf_X3_55 hAt_same rfl ?_
  refine x_iconst (pc := 5) (v := (1 : Int32)) dX3_growOlder_5 (by decide) ?_
  refine x_iadd (pc := 6) dX3_growOlder_6 ?_
  refine x_putf (pc := 7) (e' := waC la ka (upd w 5 ((w 5) + (1 : Int32)))) dX3_growOlder_7 xf_X3_55 hAt_same rfl rfl rfl rfl ?_
  refine Wp.eqh (h' := (hSet h a (waC la ka (upd w 5 ((w 5) + (1 : Int32)))))) (hSet_set) ?_
  refine x_aload_n (pc := 10) dX3_growOlder_10 rfl ?_
  refine x_getf (pc := 11) (v := .int ((upd w 5 ((w 5) + (1 : Int32))) 5)) dX3_growOlder_11 xf_X3_55 hAt_same rfl ?_
  refine x_aload_n (pc := 14) dX3_growOlder_14 rfl ?_
  refine x_getf (pc := 15) (v := .int (r 2)) dX3_growOlder_15 xf_X3_145 (hAt_n n_rr_a k_rr) rfl ?_
  obtain ⟨F1, eF1⟩ : ∃ F, F = g_X3_growOlder_18 r (upd w 5 ((w 5) + (1 : Int32))) ((upd w 5 ((w 5) + (1 : Int32))) 5) (r 2) := ⟨_, rfl⟩
  try rw [← eF1] at er
  refine x_mrg (pc' := 34) (L' := [(0, .ref a), (1, .ref rr)]) (st' := []) (h' := (hSet h a (waC la ka F1))) (fun J => ?_) ?_
  · unfold g_X3_growOlder_18 at eF1
    refine x_icmp_lt (pc := 18) (tgt := 34) dX3_growOlder_18 (by decide) (fun (c2 : ((upd w 5 ((w 5) + (1 : Int32))) 5) < (r 2)) => ?_) (fun (c2 : ¬ (((upd w 5 ((w 5) + (1 : Int32))) 5) < (r 2))) => ?_)
    · rw [if_pos c2] at eF1
      subst eF1
      exact J
    · rw [if_neg c2] at eF1
      refine x_aload_n (pc := 21) dX3_growOlder_21 rfl ?_
      refine x_iconst (pc := 22) (v := (0 : Int32)) dX3_growOlder_22 (by decide) ?_
      refine x_putf (pc := 23) (e' := waC la ka (upd (upd w 5 ((w 5) + (1 : Int32))) 5 (0 : Int32))) dX3_growOlder_23 xf_X3_55 hAt_same rfl rfl rfl rfl ?_
      refine Wp.eqh (h' := (hSet h a (waC la ka (upd (upd w 5 ((w 5) + (1 : Int32))) 5 (0 : Int32))))) (hSet_set) ?_
      refine x_aload_n (pc := 26) dX3_growOlder_26 rfl ?_
      refine x_aload_n (pc := 27) dX3_growOlder_27 rfl ?_
      refine x_getf (pc := 28) (v := .int (r 1)) dX3_growOlder_28 xf_X3_36 (hAt_n n_rr_a k_rr) rfl ?_
      refine x_putf (pc := 31) (e' := waC la ka (upd (upd (upd w 5 ((w 5) + (1 : Int32))) 5 (0 : Int32)) 1 (r 1))) dX3_growOlder_31 xf_X3_39 hAt_same rfl rfl rfl rfl ?_
      refine Wp.eqh (h' := (hSet h a (waC la ka (upd (upd (upd w 5 ((w 5) + (1 : Int32))) 5 (0 : Int32)) 1 (r 1))))) (hSet_set) ?_
      subst eF1
      exact J
  subst er
  exact x_vret (pc := 34) dX3_growOlder_34 rfl rfl rfl ⟨rfl, rfl⟩

def g_X3_miss_32 (r : (Nat → Int32)) (x_a : (Nat → Int32)) (y0 : Int32) (y1 : Int32) : (Nat → Int32) := (if y0 ≤ y1 then x_a else (upd (upd (upd x_a 6 ((x_a 6) + (1 : Int32))) 1 (((upd x_a 6 ((x_a 6) + (1 : Int32))) 0) - (1 : Int32))) 0 (r 0)))
def f_X3_miss (w r : Nat → Int32) : (Nat → Int32) := (if (3 : Int32) ≤ ((upd w 4 ((w 4) + (1 : Int32))) 4) then (g_X3_miss_32 r (upd (upd w 4 ((w 4) + (1 : Int32))) 4 (0 : Int32)) ((upd (upd w 4 ((w 4) + (1 : Int32))) 4 (0 : Int32)) 0) (r 0)) else (upd w 4 ((w 4) + (1 : Int32))))
set_option maxRecDepth 100000 in
set_option maxHeartbeats 4000000 in
theorem C_X3_miss (G : xG) (h : xH) (a rr la ka : Nat) (w r : Nat → Int32) (k_a : hAt h a = some (waC la ka w)) (k_rr : hAt h rr = some (ruC r)) : Cd G 0 yX3_miss cX3_miss 2 none [.ref a, .ref rr] h none (hSet h a (waC la ka (f_X3_miss w r))) := by
  have n_rr_a : rr ≠ a := hne_k k_rr k_a rfl
  refine Ct.of (by decide) (by rfl) ?_
  refine Wp.eqs (L' := [(0, .ref a), (1, .ref rr)]) (st' := []) rfl rfl ?_
  refine Wp.eqh (h' := (hSet h a (waC la ka w))) (by rw [hSet_self k_a]) ?_
  obtain ⟨R, er⟩ : ∃ R, R = f_X3_miss w r := ⟨_, rfl⟩
  rw [← er]
  unfold f_X3_miss at er
  refine x_aload_n (pc := 0) dX3_miss_0 rfl ?_
  refine x_dup (pc := 1) dX3_miss_1 rfl ?_
  refine x_getf (pc := 2) (v := .int (w 4)) dX3_miss_2 xf_X3_52 hAt_same rfl ?_
  refine x_iconst (pc := 5) (v := (1 : Int32)) dX3_miss_5 (by decide) ?_
  refine x_iadd (pc := 6) dX3_miss_6 ?_
  refine x_putf (pc := 7) (e' := waC la ka (upd w 4 ((w 4) + (1 : Int32)))) dX3_miss_7 xf_X3_52 hAt_same rfl rfl rfl rfl ?_
  refine Wp.eqh (h' := (hSet h a (waC la ka (upd w 4 ((w 4) + (1 : Int32)))))) (hSet_set) ?_
  refine x_aload_n (pc := 10) dX3_miss_10 rfl ?_
  refine x_getf (pc := 11) (v := .int ((upd w 4 ((w 4) + (1 : Int32))) 4)) dX3_miss_11 xf_X3_52 hAt_same rfl ?_
  refine x_iconst (pc := 14) (v := (3 : Int32)) dX3_miss_14 (by decide) ?_
  refine x_icmp_ge (pc := 15) (tgt := 19) dX3_miss_15 (by decide) (fun (c1 : (3 : Int32) ≤ ((upd w 4 ((w 4) + (1 : Int32))) 4)) => ?_) (fun (c1 : ¬ ((3 : Int32) ≤ ((upd w 4 ((w 4) + (1 : Int32))) 4))) => ?_)
  · rw [if_pos c1] at er
    refine x_aload_n (pc := 19) dX3_miss_19 rfl ?_
    refine x_iconst (pc := 20) (v := (0 : Int32)) dX3_miss_20 (by decide) ?_
    refine x_putf (pc := 21) (e' := waC la ka (upd (upd w 4 ((w 4) + (1 : Int32))) 4 (0 : Int32))) dX3_miss_21 xf_X3_52 hAt_same rfl rfl rfl rfl ?_
    refine Wp.eqh (h' := (hSet h a (waC la ka (upd (upd w 4 ((w 4) + (1 : Int32))) 4 (0 : Int32))))) (hSet_set) ?_
    refine x_aload_n (pc := 24) dX3_miss_24 rfl ?_
    refine x_getf (pc := 25) (v := .int ((upd (upd w 4 ((w 4) + (1 : Int32))) 4 (0 : Int32)) 0)) dX3_miss_25 xf_X3_33 hAt_same rfl ?_
    refine x_aload_n (pc := 28) dX3_miss_28 rfl ?_
    refine x_getf (pc := 29) (v := .int (r 0)) dX3_miss_29 xf_X3_28 (hAt_n n_rr_a k_rr) rfl ?_
    obtain ⟨F1, eF1⟩ : ∃ F, F = g_X3_miss_32 r (upd (upd w 4 ((w 4) + (1 : Int32))) 4 (0 : Int32)) ((upd (upd w 4 ((w 4) + (1 : Int32))) 4 (0 : Int32)) 0) (r 0) := ⟨_, rfl⟩
    try rw [← eF1] at er
    refine x_mrg (pc' := 63) (L' := [(0, .ref a), (1, .ref rr)]) (st' := []) (h' := (hSet h a (waC la ka F1))) (fun J => ?_) ?_
    · unfold g_X3_miss_32 at eF1
      refine x_icmp_le (pc := 32) (tgt := 63) dX3_miss_32 (by decide) (fun (c3 : ((upd (upd w 4 ((w 4) + (1 : Int32))) 4 (0 : Int32)) 0) ≤ (r 0)) => ?_) (fun (c3 : ¬ (((upd (upd w 4 ((w 4) + (1 : Int32))) 4 (0 : Int32)) 0) ≤ (r 0))) => ?_)
      · rw [if_pos c3] at eF1
        subst eF1
        exact J
      · rw [if_neg c3] at eF1
        refine x_aload_n (pc := 35) dX3_miss_35 rfl ?_
        refine x_dup (pc := 36) dX3_miss_36 rfl ?_
        refine x_getf (pc := 37) (v := .int ((upd (upd w 4 ((w 4) + (1 : Int32))) 4 (0 : Int32)) 6)) dX3_miss_37 xf_X3_58 hAt_same rfl ?_
        refine x_iconst (pc := 40) (v := (1 : Int32)) dX3_miss_40 (by decide) ?_
        refine x_iadd (pc := 41) dX3_miss_41 ?_
        refine x_putf (pc := 42) (e' := waC la ka (upd (upd (upd w 4 ((w 4) + (1 : Int32))) 4 (0 : Int32)) 6 (((upd (upd w 4 ((w 4) + (1 : Int32))) 4 (0 : Int32)) 6) + (1 : Int32)))) dX3_miss_42 xf_X3_58 hAt_same rfl rfl rfl rfl ?_
        refine Wp.eqh (h' := (hSet h a (waC la ka (upd (upd (upd w 4 ((w 4) + (1 : Int32))) 4 (0 : Int32)) 6 (((upd (upd w 4 ((w 4) + (1 : Int32))) 4 (0 : Int32)) 6) + (1 : Int32)))))) (hSet_set) ?_
        refine x_aload_n (pc := 45) dX3_miss_45 rfl ?_
        refine x_aload_n (pc := 46) dX3_miss_46 rfl ?_
        refine x_getf (pc := 47) (v := .int ((upd (upd (upd w 4 ((w 4) + (1 : Int32))) 4 (0 : Int32)) 6 (((upd (upd w 4 ((w 4) + (1 : Int32))) 4 (0 : Int32)) 6) + (1 : Int32))) 0)) dX3_miss_47 xf_X3_33 hAt_same rfl ?_
        refine x_iconst (pc := 50) (v := (1 : Int32)) dX3_miss_50 (by decide) ?_
        refine x_isub (pc := 51) dX3_miss_51 ?_
        refine x_putf (pc := 52) (e' := waC la ka (upd (upd (upd (upd w 4 ((w 4) + (1 : Int32))) 4 (0 : Int32)) 6 (((upd (upd w 4 ((w 4) + (1 : Int32))) 4 (0 : Int32)) 6) + (1 : Int32))) 1 (((upd (upd (upd w 4 ((w 4) + (1 : Int32))) 4 (0 : Int32)) 6 (((upd (upd w 4 ((w 4) + (1 : Int32))) 4 (0 : Int32)) 6) + (1 : Int32))) 0) - (1 : Int32)))) dX3_miss_52 xf_X3_39 hAt_same rfl rfl rfl rfl ?_
        refine Wp.eqh (h' := (hSet h a (waC la ka (upd (upd (upd (upd w 4 ((w 4) + (1 : Int32))) 4 (0 : Int32)) 6 (((upd (upd w 4 ((w 4) + (1 : Int32))) 4 (0 : Int32)) 6) + (1 : Int32))) 1 (((upd (upd (upd w 4 ((w 4) + (1 : Int32))) 4 (0 : Int32)) 6 (((upd (upd w 4 ((w 4) + (1 : Int32))) 4 (0 : Int32)) 6) + (1 : Int32))) 0) - (1 : Int32)))))) (hSet_set) ?_
        refine x_aload_n (pc := 55) dX3_miss_55 rfl ?_
        refine x_aload_n (pc := 56) dX3_miss_56 rfl ?_
        refine x_getf (pc := 57) (v := .int (r 0)) dX3_miss_57 xf_X3_28 (hAt_n n_rr_a k_rr) rfl ?_
        refine x_putf (pc := 60) (e' := waC la ka (upd (upd (upd (upd (upd w 4 ((w 4) + (1 : Int32))) 4 (0 : Int32)) 6 (((upd (upd w 4 ((w 4) + (1 : Int32))) 4 (0 : Int32)) 6) + (1 : Int32))) 1 (((upd (upd (upd w 4 ((w 4) + (1 : Int32))) 4 (0 : Int32)) 6 (((upd (upd w 4 ((w 4) + (1 : Int32))) 4 (0 : Int32)) 6) + (1 : Int32))) 0) - (1 : Int32))) 0 (r 0))) dX3_miss_60 xf_X3_33 hAt_same rfl rfl rfl rfl ?_
        refine Wp.eqh (h' := (hSet h a (waC la ka (upd (upd (upd (upd (upd w 4 ((w 4) + (1 : Int32))) 4 (0 : Int32)) 6 (((upd (upd w 4 ((w 4) + (1 : Int32))) 4 (0 : Int32)) 6) + (1 : Int32))) 1 (((upd (upd (upd w 4 ((w 4) + (1 : Int32))) 4 (0 : Int32)) 6 (((upd (upd w 4 ((w 4) + (1 : Int32))) 4 (0 : Int32)) 6) + (1 : Int32))) 0) - (1 : Int32))) 0 (r 0))))) (hSet_set) ?_
        subst eF1
        exact J
    subst er
    exact x_vret (pc := 63) dX3_miss_63 rfl rfl rfl ⟨rfl, rfl⟩
  · rw [if_neg c1] at er
    subst er
    exact x_vret (pc := 18) dX3_miss_18 rfl rfl rfl ⟨rfl, rfl⟩

def g_X3_checkLow_49 (r : (Nat → Int32)) (v4 : Int32) (x_a : (Nat → Int32)) (y0 : Int32) : (Nat → Int32) := (if y0 ≤ v4 then x_a else (upd x_a 0 (if v4 < (r 0) then (r 0) else v4)))
def g_X3_checkLow_35 (r : (Nat → Int32)) (v3 : Int32) (x_a : (Nat → Int32)) : (Nat → Int32) := (if v3 < (2 : Int32) then x_a else (f_X3_lowerHigh (g_X3_checkLow_49 r (v3 - (2 : Int32)) x_a (x_a 0)) (v3 - (2 : Int32))))
def f_X3_checkLow (w lf kf r : Nat → Int32) : (Nat → Int32) := (if (f_X3_isLost (f_X3_post w lf kf r (w 0)).2 r (f_X3_post w lf kf r (w 0)).1 (w 0)) = 0 then (g_X3_checkLow_35 r (f_X3_post w lf kf r (w 0)).1 (upd (f_X3_post w lf kf r (w 0)).2 4 (0 : Int32))) else (f_X3_miss (f_X3_post w lf kf r (w 0)).2 r))
def p_X3_checkLow (w lf kf r : Nat → Int32) : Prop := (p_X3_post w lf kf r (w 0) ∧ (((f_X3_isLost (f_X3_post w lf kf r (w 0)).2 r (f_X3_post w lf kf r (w 0)).1 (w 0)) = 0 → True) ∧ (¬ ((f_X3_isLost (f_X3_post w lf kf r (w 0)).2 r (f_X3_post w lf kf r (w 0)).1 (w 0)) = 0) → True)))
set_option maxRecDepth 100000 in
set_option maxHeartbeats 4000000 in
theorem C_X3_checkLow (G : xG) (h : xH) (a rr la ka : Nat) (w lf kf r : Nat → Int32) (k_a : hAt h a = some (waC la ka w)) (k_la : hAt h la = some (arI 6 lf)) (k_ka : hAt h ka = some (arI 6 kf)) (k_rr : hAt h rr = some (ruC r)) (hp : p_X3_checkLow w lf kf r) : Cd G 3 yX3_checkLow cX3_checkLow 5 none [.ref a, .ref rr] h none (hSet h a (waC la ka (f_X3_checkLow w lf kf r))) := by
  have n_ka_a : ka ≠ a := hne_k k_ka k_a rfl
  have n_la_a : la ≠ a := hne_k k_la k_a rfl
  have n_rr_a : rr ≠ a := hne_k k_rr k_a rfl
  refine Ct.of (by decide) (by rfl) ?_
  refine Wp.eqs (L' := [(0, .ref a), (1, .ref rr)]) (st' := []) rfl rfl ?_
  refine Wp.eqh (h' := (hSet h a (waC la ka w))) (by rw [hSet_self k_a]) ?_
  obtain ⟨R, er⟩ : ∃ R, R = f_X3_checkLow w lf kf r := ⟨_, rfl⟩
  rw [← er]
  unfold f_X3_checkLow at er
  unfold p_X3_checkLow at hp
  refine x_aload_n (pc := 0) dX3_checkLow_0 rfl ?_
  refine x_getf (pc := 1) (v := .int (w 0)) dX3_checkLow_1 xf_X3_33 hAt_same rfl ?_
  refine x_istore_n (pc := 4) (L' := [(2, .int (w 0)), (0, .ref a), (1, .ref rr)]) dX3_checkLow_4 rfl rfl ?_
  refine x_aload_n (pc := 5) dX3_checkLow_5 rfl ?_
  refine x_iload_n (pc := 6) dX3_checkLow_6 rfl ?_
  refine x_aload_n (pc := 7) dX3_checkLow_7 rfl ?_
  obtain ⟨q8, hp⟩ := hp
  refine x_cV2i (pc := 8) dX3_checkLow_8 xl_X3_132 xv_X3_post hAt_same rfl (C_X3_post G _ a rr la ka w lf kf r (w 0) hAt_same (hAt_n n_la_a k_la) (hAt_n n_ka_a k_ka) (hAt_n n_rr_a k_rr) q8) rfl rfl rfl ?_
  obtain ⟨F1, eF1⟩ : ∃ F, F = f_X3_post w lf kf r (w 0) := ⟨_, rfl⟩
  rw [← eF1]
  try rw [← eF1] at er
  try rw [← eF1] at hp
  refine Wp.eqh (h' := (hSet h a (waC la ka F1.2))) (hSet_set) ?_
  refine x_istore_n (pc := 11) (L' := [(3, .int F1.1), (2, .int (w 0)), (0, .ref a), (1, .ref rr)]) dX3_checkLow_11 rfl rfl ?_
  refine x_aload_n (pc := 12) dX3_checkLow_12 rfl ?_
  refine x_iload_n (pc := 13) dX3_checkLow_13 rfl ?_
  refine x_iload_n (pc := 14) dX3_checkLow_14 rfl ?_
  refine x_aload_n (pc := 15) dX3_checkLow_15 rfl ?_
  refine x_cV3i (pc := 16) dX3_checkLow_16 xl_X3_111 xv_X3_isLost hAt_same rfl (C_X3_isLost G _ a rr la ka F1.2 r F1.1 (w 0) hAt_same (hAt_n n_rr_a k_rr)) rfl rfl rfl ?_
  obtain ⟨F2, eF2⟩ : ∃ F, F = f_X3_isLost F1.2 r F1.1 (w 0) := ⟨_, rfl⟩
  rw [← eF2]
  try rw [← eF2] at er
  try rw [← eF2] at hp
  have bF2 : xB F2 := by rw [eF2]; exact (B_X3_isLost _ _ _ _)
  refine x_if_eq (pc := 19) (tgt := 28) dX3_checkLow_19 (by decide) (fun (c1 : F2 = 0) => ?_) (fun (c1 : ¬ (F2 = 0)) => ?_)
  · rw [if_pos c1] at er
    replace hp := hp.1 c1
    refine x_aload_n (pc := 28) dX3_checkLow_28 rfl ?_
    refine x_iconst (pc := 29) (v := (0 : Int32)) dX3_checkLow_29 (by decide) ?_
    refine x_putf (pc := 30) (e' := waC la ka (upd F1.2 4 (0 : Int32))) dX3_checkLow_30 xf_X3_52 hAt_same rfl rfl rfl rfl ?_
    refine Wp.eqh (h' := (hSet h a (waC la ka (upd F1.2 4 (0 : Int32))))) (hSet_set) ?_
    refine x_iload_n (pc := 33) dX3_checkLow_33 rfl ?_
    refine x_iconst (pc := 34) (v := (2 : Int32)) dX3_checkLow_34 (by decide) ?_
    obtain ⟨F7, eF7⟩ : ∃ F, F = g_X3_checkLow_35 r F1.1 (upd F1.2 4 (0 : Int32)) := ⟨_, rfl⟩
    try rw [← eF7] at er
    try rw [← eF7] at hp
    refine x_mrg (pc' := 71) (L' := [(3, .int F1.1), (2, .int (w 0)), (0, .ref a), (1, .ref rr)]) (st' := []) (h' := (hSet h a (waC la ka F7))) (fun J => ?_) ?_
    · unfold g_X3_checkLow_35 at eF7
      try rw [← eF1] at eF7
      try rw [← eF2] at eF7
      refine x_icmp_lt (pc := 35) (tgt := 71) dX3_checkLow_35 (by decide) (fun (c5 : F1.1 < (2 : Int32)) => ?_) (fun (c5 : ¬ (F1.1 < (2 : Int32))) => ?_)
      · rw [if_pos c5] at eF7
        subst eF7
        exact J
      · rw [if_neg c5] at eF7
        refine x_iload_n (pc := 38) dX3_checkLow_38 rfl ?_
        refine x_iconst (pc := 39) (v := (2 : Int32)) dX3_checkLow_39 (by decide) ?_
        refine x_isub (pc := 40) dX3_checkLow_40 ?_
        refine x_istore (pc := 41) (L' := [(4, .int (F1.1 - (2 : Int32))), (3, .int F1.1), (2, .int (w 0)), (0, .ref a), (1, .ref rr)]) dX3_checkLow_41 rfl rfl ?_
        refine x_iload (pc := 43) dX3_checkLow_43 rfl ?_
        refine x_aload_n (pc := 45) dX3_checkLow_45 rfl ?_
        refine x_getf (pc := 46) (v := .int ((upd F1.2 4 (0 : Int32)) 0)) dX3_checkLow_46 xf_X3_33 hAt_same rfl ?_
        obtain ⟨F5, eF5⟩ : ∃ F, F = g_X3_checkLow_49 r (F1.1 - (2 : Int32)) (upd F1.2 4 (0 : Int32)) ((upd F1.2 4 (0 : Int32)) 0) := ⟨_, rfl⟩
        try rw [← eF5] at eF7
        refine x_mrg (pc' := 65) (L' := [(4, .int (F1.1 - (2 : Int32))), (3, .int F1.1), (2, .int (w 0)), (0, .ref a), (1, .ref rr)]) (st' := []) (h' := (hSet h a (waC la ka F5))) (fun J => ?_) ?_
        · unfold g_X3_checkLow_49 at eF5
          try rw [← eF1] at eF5
          try rw [← eF2] at eF5
          refine x_icmp_ge (pc := 49) (tgt := 65) dX3_checkLow_49 (by decide) (fun (c7 : ((upd F1.2 4 (0 : Int32)) 0) ≤ (F1.1 - (2 : Int32))) => ?_) (fun (c7 : ¬ (((upd F1.2 4 (0 : Int32)) 0) ≤ (F1.1 - (2 : Int32)))) => ?_)
          · rw [if_pos c7] at eF5
            subst eF5
            exact J
          · rw [if_neg c7] at eF5
            refine x_aload_n (pc := 52) dX3_checkLow_52 rfl ?_
            refine x_iload (pc := 53) dX3_checkLow_53 rfl ?_
            refine x_aload_n (pc := 55) dX3_checkLow_55 rfl ?_
            refine x_getf (pc := 56) (v := .int (r 0)) dX3_checkLow_56 xf_X3_28 (hAt_n n_rr_a k_rr) rfl ?_
            refine x_max (pc := 59) dX3_checkLow_59 xl_X3_86 rfl rfl rfl rfl rfl ?_
            refine x_putf (pc := 62) (e' := waC la ka (upd (upd F1.2 4 (0 : Int32)) 0 (if (F1.1 - (2 : Int32)) < (r 0) then (r 0) else (F1.1 - (2 : Int32))))) dX3_checkLow_62 xf_X3_33 hAt_same rfl rfl rfl rfl ?_
            refine Wp.eqh (h' := (hSet h a (waC la ka (upd (upd F1.2 4 (0 : Int32)) 0 (if (F1.1 - (2 : Int32)) < (r 0) then (r 0) else (F1.1 - (2 : Int32))))))) (hSet_set) ?_
            subst eF5
            exact J
        refine x_aload_n (pc := 65) dX3_checkLow_65 rfl ?_
        refine x_iload (pc := 66) dX3_checkLow_66 rfl ?_
        refine x_cV1v (pc := 68) dX3_checkLow_68 xl_X3_138 xv_X3_lowerHigh hAt_same rfl (C_X3_lowerHigh G _ a la ka F5 (F1.1 - (2 : Int32)) hAt_same) rfl rfl rfl ?_
        obtain ⟨F6, eF6⟩ : ∃ F, F = f_X3_lowerHigh F5 (F1.1 - (2 : Int32)) := ⟨_, rfl⟩
        rw [← eF6]
        try rw [← eF6] at eF7
        refine Wp.eqh (h' := (hSet h a (waC la ka F6))) (hSet_set) ?_
        subst eF7
        refine Wp.sub [1, 2, 3, 4] (L' := [(3, .int F1.1), (2, .int (w 0)), (0, .ref a), (1, .ref rr)]) rfl ?_
        exact J
    subst er
    exact x_vret (pc := 71) dX3_checkLow_71 rfl rfl rfl ⟨rfl, rfl⟩
  · rw [if_neg c1] at er
    replace hp := hp.2 c1
    refine x_aload_n (pc := 22) dX3_checkLow_22 rfl ?_
    refine x_aload_n (pc := 23) dX3_checkLow_23 rfl ?_
    refine x_cV1v (pc := 24) dX3_checkLow_24 xl_X3_135 xv_X3_miss hAt_same rfl (C_X3_miss G _ a rr la ka F1.2 r hAt_same (hAt_n n_rr_a k_rr)) rfl rfl rfl ?_
    obtain ⟨F8, eF8⟩ : ∃ F, F = f_X3_miss F1.2 r := ⟨_, rfl⟩
    rw [← eF8]
    try rw [← eF8] at er
    try rw [← eF8] at hp
    refine Wp.eqh (h' := (hSet h a (waC la ka F8))) (hSet_set) ?_
    subst er
    exact x_vret (pc := 27) dX3_checkLow_27 rfl rfl rfl ⟨rfl, rfl⟩

def g_X3_search_60 (v3 : Int32) (v2 : Int32) (x_a : (Nat → Int32)) : (Nat → Int32) := (if v3 < (2 : Int32) then (upd x_a 0 v2) else (f_X3_lowerHigh x_a (v3 - (2 : Int32))))
def g_X3_search_37 (v2 : Int32) (x_a : (Nat → Int32)) (y0 : Int32) : (Nat → Int32) := (if y0 < (3 : Int32) then x_a else (upd (upd x_a 1 (v2 - (1 : Int32))) 3 (0 : Int32)))
def f_X3_search (w lf kf r : Nat → Int32) : (Nat → Int32) := (if (f_X3_isLost (f_X3_post w lf kf r (f_X3_probeSize w)).2 r (f_X3_post w lf kf r (f_X3_probeSize w)).1 (f_X3_probeSize w)) = 0 then (g_X3_search_60 (f_X3_post w lf kf r (f_X3_probeSize w)).1 (f_X3_probeSize w) (upd (f_X3_post w lf kf r (f_X3_probeSize w)).2 3 (0 : Int32))) else (g_X3_search_37 (f_X3_probeSize w) (upd (f_X3_post w lf kf r (f_X3_probeSize w)).2 3 (((f_X3_post w lf kf r (f_X3_probeSize w)).2 3) + (1 : Int32))) ((upd (f_X3_post w lf kf r (f_X3_probeSize w)).2 3 (((f_X3_post w lf kf r (f_X3_probeSize w)).2 3) + (1 : Int32))) 3)))
def p_X3_search (w lf kf r : Nat → Int32) : Prop := (p_X3_post w lf kf r (f_X3_probeSize w) ∧ (((f_X3_isLost (f_X3_post w lf kf r (f_X3_probeSize w)).2 r (f_X3_post w lf kf r (f_X3_probeSize w)).1 (f_X3_probeSize w)) = 0 → True) ∧ (¬ ((f_X3_isLost (f_X3_post w lf kf r (f_X3_probeSize w)).2 r (f_X3_post w lf kf r (f_X3_probeSize w)).1 (f_X3_probeSize w)) = 0) → True)))
set_option maxRecDepth 100000 in
set_option maxHeartbeats 4000000 in
theorem C_X3_search (G : xG) (h : xH) (a rr la ka : Nat) (w lf kf r : Nat → Int32) (k_a : hAt h a = some (waC la ka w)) (k_la : hAt h la = some (arI 6 lf)) (k_ka : hAt h ka = some (arI 6 kf)) (k_rr : hAt h rr = some (ruC r)) (hp : p_X3_search w lf kf r) : Cd G 3 yX3_search cX3_search 4 none [.ref a, .ref rr] h none (hSet h a (waC la ka (f_X3_search w lf kf r))) := by
  have n_ka_a : ka ≠ a := hne_k k_ka k_a rfl
  have n_la_a : la ≠ a := hne_k k_la k_a rfl
  have n_rr_a : rr ≠ a := hne_k k_rr k_a rfl
  refine Ct.of (by decide) (by rfl) ?_
  refine Wp.eqs (L' := [(0, .ref a), (1, .ref rr)]) (st' := []) rfl rfl ?_
  refine Wp.eqh (h' := (hSet h a (waC la ka w))) (by rw [hSet_self k_a]) ?_
  obtain ⟨R, er⟩ : ∃ R, R = f_X3_search w lf kf r := ⟨_, rfl⟩
  rw [← er]
  unfold f_X3_search at er
  unfold p_X3_search at hp
  refine x_aload_n (pc := 0) dX3_search_0 rfl ?_
  refine x_cV0i (pc := 1) dX3_search_1 xl_X3_142 xv_X3_probeSize hAt_same rfl (C_X3_probeSize G _ a la ka w hAt_same) rfl rfl rfl ?_
  obtain ⟨F1, eF1⟩ : ∃ F, F = f_X3_probeSize w := ⟨_, rfl⟩
  rw [← eF1]
  try rw [← eF1] at er
  try rw [← eF1] at hp
  refine x_istore_n (pc := 4) (L' := [(2, .int F1), (0, .ref a), (1, .ref rr)]) dX3_search_4 rfl rfl ?_
  refine x_aload_n (pc := 5) dX3_search_5 rfl ?_
  refine x_iload_n (pc := 6) dX3_search_6 rfl ?_
  refine x_aload_n (pc := 7) dX3_search_7 rfl ?_
  obtain ⟨q8, hp⟩ := hp
  refine x_cV2i (pc := 8) dX3_search_8 xl_X3_132 xv_X3_post hAt_same rfl (C_X3_post G _ a rr la ka w lf kf r F1 hAt_same (hAt_n n_la_a k_la) (hAt_n n_ka_a k_ka) (hAt_n n_rr_a k_rr) q8) rfl rfl rfl ?_
  obtain ⟨F2, eF2⟩ : ∃ F, F = f_X3_post w lf kf r F1 := ⟨_, rfl⟩
  rw [← eF2]
  try rw [← eF2] at er
  try rw [← eF2] at hp
  refine Wp.eqh (h' := (hSet h a (waC la ka F2.2))) (hSet_set) ?_
  refine x_istore_n (pc := 11) (L' := [(3, .int F2.1), (2, .int F1), (0, .ref a), (1, .ref rr)]) dX3_search_11 rfl rfl ?_
  refine x_aload_n (pc := 12) dX3_search_12 rfl ?_
  refine x_iload_n (pc := 13) dX3_search_13 rfl ?_
  refine x_iload_n (pc := 14) dX3_search_14 rfl ?_
  refine x_aload_n (pc := 15) dX3_search_15 rfl ?_
  refine x_cV3i (pc := 16) dX3_search_16 xl_X3_111 xv_X3_isLost hAt_same rfl (C_X3_isLost G _ a rr la ka F2.2 r F2.1 F1 hAt_same (hAt_n n_rr_a k_rr)) rfl rfl rfl ?_
  obtain ⟨F3, eF3⟩ : ∃ F, F = f_X3_isLost F2.2 r F2.1 F1 := ⟨_, rfl⟩
  rw [← eF3]
  try rw [← eF3] at er
  try rw [← eF3] at hp
  have bF3 : xB F3 := by rw [eF3]; exact (B_X3_isLost _ _ _ _)
  refine x_if_eq (pc := 19) (tgt := 53) dX3_search_19 (by decide) (fun (c1 : F3 = 0) => ?_) (fun (c1 : ¬ (F3 = 0)) => ?_)
  · rw [if_pos c1] at er
    replace hp := hp.1 c1
    refine x_aload_n (pc := 53) dX3_search_53 rfl ?_
    refine x_iconst (pc := 54) (v := (0 : Int32)) dX3_search_54 (by decide) ?_
    refine x_putf (pc := 55) (e' := waC la ka (upd F2.2 3 (0 : Int32))) dX3_search_55 xf_X3_49 hAt_same rfl rfl rfl rfl ?_
    refine Wp.eqh (h' := (hSet h a (waC la ka (upd F2.2 3 (0 : Int32))))) (hSet_set) ?_
    refine x_iload_n (pc := 58) dX3_search_58 rfl ?_
    refine x_iconst (pc := 59) (v := (2 : Int32)) dX3_search_59 (by decide) ?_
    obtain ⟨F6, eF6⟩ : ∃ F, F = g_X3_search_60 F2.1 F1 (upd F2.2 3 (0 : Int32)) := ⟨_, rfl⟩
    try rw [← eF6] at er
    try rw [← eF6] at hp
    refine x_mrg (pc' := 78) (L' := [(3, .int F2.1), (2, .int F1), (0, .ref a), (1, .ref rr)]) (st' := []) (h' := (hSet h a (waC la ka F6))) (fun J => ?_) ?_
    · unfold g_X3_search_60 at eF6
      try rw [← eF1] at eF6
      try rw [← eF2] at eF6
      try rw [← eF3] at eF6
      refine x_icmp_lt (pc := 60) (tgt := 73) dX3_search_60 (by decide) (fun (c3 : F2.1 < (2 : Int32)) => ?_) (fun (c3 : ¬ (F2.1 < (2 : Int32))) => ?_)
      · rw [if_pos c3] at eF6
        refine x_aload_n (pc := 73) dX3_search_73 rfl ?_
        refine x_iload_n (pc := 74) dX3_search_74 rfl ?_
        refine x_putf (pc := 75) (e' := waC la ka (upd (upd F2.2 3 (0 : Int32)) 0 F1)) dX3_search_75 xf_X3_33 hAt_same rfl rfl rfl rfl ?_
        refine Wp.eqh (h' := (hSet h a (waC la ka (upd (upd F2.2 3 (0 : Int32)) 0 F1)))) (hSet_set) ?_
        subst eF6
        exact J
      · rw [if_neg c3] at eF6
        refine x_aload_n (pc := 63) dX3_search_63 rfl ?_
        refine x_iload_n (pc := 64) dX3_search_64 rfl ?_
        refine x_iconst (pc := 65) (v := (2 : Int32)) dX3_search_65 (by decide) ?_
        refine x_isub (pc := 66) dX3_search_66 ?_
        refine x_cV1v (pc := 67) dX3_search_67 xl_X3_138 xv_X3_lowerHigh hAt_same rfl (C_X3_lowerHigh G _ a la ka (upd F2.2 3 (0 : Int32)) (F2.1 - (2 : Int32)) hAt_same) rfl rfl rfl ?_
        obtain ⟨F5, eF5⟩ : ∃ F, F = f_X3_lowerHigh (upd F2.2 3 (0 : Int32)) (F2.1 - (2 : Int32)) := ⟨_, rfl⟩
        rw [← eF5]
        try rw [← eF5] at eF6
        refine Wp.eqh (h' := (hSet h a (waC la ka F5))) (hSet_set) ?_
        refine x_goto (pc := 70) (tgt := 78) dX3_search_70 (by decide) ?_
        subst eF6
        exact J
    subst er
    exact x_vret (pc := 78) dX3_search_78 rfl rfl rfl ⟨rfl, rfl⟩
  · rw [if_neg c1] at er
    replace hp := hp.2 c1
    refine x_aload_n (pc := 22) dX3_search_22 rfl ?_
    refine x_dup (pc := 23) dX3_search_23 rfl ?_
    refine x_getf (pc := 24) (v := .int (F2.2 3)) dX3_search_24 xf_X3_49 hAt_same rfl ?_
    refine x_iconst (pc := 27) (v := (1 : Int32)) dX3_search_27 (by decide) ?_
    refine x_iadd (pc := 28) dX3_search_28 ?_
    refine x_putf (pc := 29) (e' := waC la ka (upd F2.2 3 ((F2.2 3) + (1 : Int32)))) dX3_search_29 xf_X3_49 hAt_same rfl rfl rfl rfl ?_
    refine Wp.eqh (h' := (hSet h a (waC la ka (upd F2.2 3 ((F2.2 3) + (1 : Int32)))))) (hSet_set) ?_
    refine x_aload_n (pc := 32) dX3_search_32 rfl ?_
    refine x_getf (pc := 33) (v := .int ((upd F2.2 3 ((F2.2 3) + (1 : Int32))) 3)) dX3_search_33 xf_X3_49 hAt_same rfl ?_
    refine x_iconst (pc := 36) (v := (3 : Int32)) dX3_search_36 (by decide) ?_
    obtain ⟨F7, eF7⟩ : ∃ F, F = g_X3_search_37 F1 (upd F2.2 3 ((F2.2 3) + (1 : Int32))) ((upd F2.2 3 ((F2.2 3) + (1 : Int32))) 3) := ⟨_, rfl⟩
    try rw [← eF7] at er
    try rw [← eF7] at hp
    refine x_mrg (pc' := 52) (L' := [(3, .int F2.1), (2, .int F1), (0, .ref a), (1, .ref rr)]) (st' := []) (h' := (hSet h a (waC la ka F7))) (fun J => ?_) ?_
    · unfold g_X3_search_37 at eF7
      try rw [← eF1] at eF7
      try rw [← eF2] at eF7
      try rw [← eF3] at eF7
      refine x_icmp_lt (pc := 37) (tgt := 52) dX3_search_37 (by decide) (fun (c5 : ((upd F2.2 3 ((F2.2 3) + (1 : Int32))) 3) < (3 : Int32)) => ?_) (fun (c5 : ¬ (((upd F2.2 3 ((F2.2 3) + (1 : Int32))) 3) < (3 : Int32))) => ?_)
      · rw [if_pos c5] at eF7
        subst eF7
        exact J
      · rw [if_neg c5] at eF7
        refine x_aload_n (pc := 40) dX3_search_40 rfl ?_
        refine x_iload_n (pc := 41) dX3_search_41 rfl ?_
        refine x_iconst (pc := 42) (v := (1 : Int32)) dX3_search_42 (by decide) ?_
        refine x_isub (pc := 43) dX3_search_43 ?_
        refine x_putf (pc := 44) (e' := waC la ka (upd (upd F2.2 3 ((F2.2 3) + (1 : Int32))) 1 (F1 - (1 : Int32)))) dX3_search_44 xf_X3_39 hAt_same rfl rfl rfl rfl ?_
        refine Wp.eqh (h' := (hSet h a (waC la ka (upd (upd F2.2 3 ((F2.2 3) + (1 : Int32))) 1 (F1 - (1 : Int32)))))) (hSet_set) ?_
        refine x_aload_n (pc := 47) dX3_search_47 rfl ?_
        refine x_iconst (pc := 48) (v := (0 : Int32)) dX3_search_48 (by decide) ?_
        refine x_putf (pc := 49) (e' := waC la ka (upd (upd (upd F2.2 3 ((F2.2 3) + (1 : Int32))) 1 (F1 - (1 : Int32))) 3 (0 : Int32))) dX3_search_49 xf_X3_49 hAt_same rfl rfl rfl rfl ?_
        refine Wp.eqh (h' := (hSet h a (waC la ka (upd (upd (upd F2.2 3 ((F2.2 3) + (1 : Int32))) 1 (F1 - (1 : Int32))) 3 (0 : Int32))))) (hSet_set) ?_
        subst eF7
        exact J
    subst er
    exact x_vret (pc := 52) dX3_search_52 rfl rfl rfl ⟨rfl, rfl⟩

def g_X3_step_56 (v5 : Int32) (x_a : (Nat → Int32)) : (Nat → Int32) := (if v5 = 0 then x_a else (upd x_a 3 (0 : Int32)))
def g_X3_step_72 (lf : (Nat → Int32)) (kf : (Nat → Int32)) (r : (Nat → Int32)) (v5 : Int32) (v2 : Int32) (x_a : (Nat → Int32)) (y0 : Int32) (y1 : Int32) : (Nat → Int32) := (if y0 ≤ y1 then (if v2 = 0 then x_a else (f_X3_growOlder x_a r)) else (if v5 = 0 then (if v2 = 0 then (f_X3_search x_a lf kf r) else (if v2 = 0 then x_a else (f_X3_growOlder x_a r))) else (f_X3_search x_a lf kf r)))
def h_X3_step_72 (lf : (Nat → Int32)) (kf : (Nat → Int32)) (r : (Nat → Int32)) (v5 : Int32) (v2 : Int32) (x_a : (Nat → Int32)) (y0 : Int32) (y1 : Int32) : Prop := ((y0 ≤ y1 → ((v2 = 0 → True) ∧ (¬ (v2 = 0) → True))) ∧ (¬ (y0 ≤ y1) → ((v5 = 0 → ((v2 = 0 → (p_X3_search x_a lf kf r ∧ True)) ∧ (¬ (v2 = 0) → ((v2 = 0 → True) ∧ (¬ (v2 = 0) → True))))) ∧ (¬ (v5 = 0) → (p_X3_search x_a lf kf r ∧ True)))))
def g_X3_step_121 (x_a : (Nat → Int32)) (y0 : Int32) : (Nat → Int32) := (if y0 = 0 then (upd x_a 5 (0 : Int32)) else x_a)
def f_X3_step (w lf kf r : Nat → Int32) : (Nat → Int32) := (g_X3_step_121 (upd (g_X3_step_72 lf kf r (if ((f_X3_checkLow w lf kf r) 0) = (w 0) then (if ((f_X3_checkLow w lf kf r) 1) = (w 1) then (0 : Int32) else (1 : Int32)) else (1 : Int32)) (if (w 2) = (1 : Int32) then (1 : Int32) else (0 : Int32)) (g_X3_step_56 (if ((f_X3_checkLow w lf kf r) 0) = (w 0) then (if ((f_X3_checkLow w lf kf r) 1) = (w 1) then (0 : Int32) else (1 : Int32)) else (1 : Int32)) (f_X3_checkLow w lf kf r)) ((g_X3_step_56 (if ((f_X3_checkLow w lf kf r) 0) = (w 0) then (if ((f_X3_checkLow w lf kf r) 1) = (w 1) then (0 : Int32) else (1 : Int32)) else (1 : Int32)) (f_X3_checkLow w lf kf r)) 1) ((g_X3_step_56 (if ((f_X3_checkLow w lf kf r) 0) = (w 0) then (if ((f_X3_checkLow w lf kf r) 1) = (w 1) then (0 : Int32) else (1 : Int32)) else (1 : Int32)) (f_X3_checkLow w lf kf r)) 0)) 2 (if (f_X3_isNarrowed (g_X3_step_72 lf kf r (if ((f_X3_checkLow w lf kf r) 0) = (w 0) then (if ((f_X3_checkLow w lf kf r) 1) = (w 1) then (0 : Int32) else (1 : Int32)) else (1 : Int32)) (if (w 2) = (1 : Int32) then (1 : Int32) else (0 : Int32)) (g_X3_step_56 (if ((f_X3_checkLow w lf kf r) 0) = (w 0) then (if ((f_X3_checkLow w lf kf r) 1) = (w 1) then (0 : Int32) else (1 : Int32)) else (1 : Int32)) (f_X3_checkLow w lf kf r)) ((g_X3_step_56 (if ((f_X3_checkLow w lf kf r) 0) = (w 0) then (if ((f_X3_checkLow w lf kf r) 1) = (w 1) then (0 : Int32) else (1 : Int32)) else (1 : Int32)) (f_X3_checkLow w lf kf r)) 1) ((g_X3_step_56 (if ((f_X3_checkLow w lf kf r) 0) = (w 0) then (if ((f_X3_checkLow w lf kf r) 1) = (w 1) then (0 : Int32) else (1 : Int32)) else (1 : Int32)) (f_X3_checkLow w lf kf r)) 0))) = 0 then (0 : Int32) else (1 : Int32))) ((upd (g_X3_step_72 lf kf r (if ((f_X3_checkLow w lf kf r) 0) = (w 0) then (if ((f_X3_checkLow w lf kf r) 1) = (w 1) then (0 : Int32) else (1 : Int32)) else (1 : Int32)) (if (w 2) = (1 : Int32) then (1 : Int32) else (0 : Int32)) (g_X3_step_56 (if ((f_X3_checkLow w lf kf r) 0) = (w 0) then (if ((f_X3_checkLow w lf kf r) 1) = (w 1) then (0 : Int32) else (1 : Int32)) else (1 : Int32)) (f_X3_checkLow w lf kf r)) ((g_X3_step_56 (if ((f_X3_checkLow w lf kf r) 0) = (w 0) then (if ((f_X3_checkLow w lf kf r) 1) = (w 1) then (0 : Int32) else (1 : Int32)) else (1 : Int32)) (f_X3_checkLow w lf kf r)) 1) ((g_X3_step_56 (if ((f_X3_checkLow w lf kf r) 0) = (w 0) then (if ((f_X3_checkLow w lf kf r) 1) = (w 1) then (0 : Int32) else (1 : Int32)) else (1 : Int32)) (f_X3_checkLow w lf kf r)) 0)) 2 (if (f_X3_isNarrowed (g_X3_step_72 lf kf r (if ((f_X3_checkLow w lf kf r) 0) = (w 0) then (if ((f_X3_checkLow w lf kf r) 1) = (w 1) then (0 : Int32) else (1 : Int32)) else (1 : Int32)) (if (w 2) = (1 : Int32) then (1 : Int32) else (0 : Int32)) (g_X3_step_56 (if ((f_X3_checkLow w lf kf r) 0) = (w 0) then (if ((f_X3_checkLow w lf kf r) 1) = (w 1) then (0 : Int32) else (1 : Int32)) else (1 : Int32)) (f_X3_checkLow w lf kf r)) ((g_X3_step_56 (if ((f_X3_checkLow w lf kf r) 0) = (w 0) then (if ((f_X3_checkLow w lf kf r) 1) = (w 1) then (0 : Int32) else (1 : Int32)) else (1 : Int32)) (f_X3_checkLow w lf kf r)) 1) ((g_X3_step_56 (if ((f_X3_checkLow w lf kf r) 0) = (w 0) then (if ((f_X3_checkLow w lf kf r) 1) = (w 1) then (0 : Int32) else (1 : Int32)) else (1 : Int32)) (f_X3_checkLow w lf kf r)) 0))) = 0 then (0 : Int32) else (1 : Int32))) 2))
def p_X3_step (w lf kf r : Nat → Int32) : Prop := (p_X3_checkLow w lf kf r ∧ ((h_X3_step_72 lf kf r (if ((f_X3_checkLow w lf kf r) 0) = (w 0) then (if ((f_X3_checkLow w lf kf r) 1) = (w 1) then (0 : Int32) else (1 : Int32)) else (1 : Int32)) (if (w 2) = (1 : Int32) then (1 : Int32) else (0 : Int32)) (g_X3_step_56 (if ((f_X3_checkLow w lf kf r) 0) = (w 0) then (if ((f_X3_checkLow w lf kf r) 1) = (w 1) then (0 : Int32) else (1 : Int32)) else (1 : Int32)) (f_X3_checkLow w lf kf r)) ((g_X3_step_56 (if ((f_X3_checkLow w lf kf r) 0) = (w 0) then (if ((f_X3_checkLow w lf kf r) 1) = (w 1) then (0 : Int32) else (1 : Int32)) else (1 : Int32)) (f_X3_checkLow w lf kf r)) 1) ((g_X3_step_56 (if ((f_X3_checkLow w lf kf r) 0) = (w 0) then (if ((f_X3_checkLow w lf kf r) 1) = (w 1) then (0 : Int32) else (1 : Int32)) else (1 : Int32)) (f_X3_checkLow w lf kf r)) 0)) ∧ True))
set_option maxRecDepth 100000 in
set_option maxHeartbeats 4000000 in
theorem C_X3_step (G : xG) (h : xH) (a rr la ka : Nat) (w lf kf r : Nat → Int32) (k_a : hAt h a = some (waC la ka w)) (k_la : hAt h la = some (arI 6 lf)) (k_ka : hAt h ka = some (arI 6 kf)) (k_rr : hAt h rr = some (ruC r)) (hp : p_X3_step w lf kf r) : Cd G 4 yX3_step cX3_step 6 none [.ref a, .ref rr] h none (hSet h a (waC la ka (f_X3_step w lf kf r))) := by
  have n_ka_a : ka ≠ a := hne_k k_ka k_a rfl
  have n_la_a : la ≠ a := hne_k k_la k_a rfl
  have n_rr_a : rr ≠ a := hne_k k_rr k_a rfl
  refine Ct.of (by decide) (by rfl) ?_
  refine Wp.eqs (L' := [(0, .ref a), (1, .ref rr)]) (st' := []) rfl rfl ?_
  refine Wp.eqh (h' := (hSet h a (waC la ka w))) (by rw [hSet_self k_a]) ?_
  obtain ⟨R, er⟩ : ∃ R, R = f_X3_step w lf kf r := ⟨_, rfl⟩
  rw [← er]
  unfold f_X3_step at er
  unfold p_X3_step at hp
  refine x_aload_n (pc := 0) dX3_step_0 rfl ?_
  refine x_getf (pc := 1) (v := .int (w 2)) dX3_step_1 xf_X3_46 hAt_same rfl ?_
  refine x_iconst (pc := 4) (v := (1 : Int32)) dX3_step_4 (by decide) ?_
  refine x_mrg (pc' := 13) (L' := [(0, .ref a), (1, .ref rr)]) (st' := [.int (if (w 2) = (1 : Int32) then (1 : Int32) else (0 : Int32))]) (h' := (hSet h a (waC la ka w))) (fun J => ?_) ?_
  · refine x_icmp_ne (pc := 5) (tgt := 12) dX3_step_5 (by decide) (fun (c1 : ¬ ((w 2) = (1 : Int32))) => ?_) (fun (c1 : (w 2) = (1 : Int32)) => ?_)
    · refine x_iconst (pc := 12) (v := (0 : Int32)) dX3_step_12 (by decide) ?_
      rw [if_neg c1] at J
      exact J
    · refine x_iconst (pc := 8) (v := (1 : Int32)) dX3_step_8 (by decide) ?_
      refine x_goto (pc := 9) (tgt := 13) dX3_step_9 (by decide) ?_
      rw [if_pos c1] at J
      exact J
  refine x_istore_n (pc := 13) (L' := [(2, .int (if (w 2) = (1 : Int32) then (1 : Int32) else (0 : Int32))), (0, .ref a), (1, .ref rr)]) dX3_step_13 rfl rfl ?_
  refine x_aload_n (pc := 14) dX3_step_14 rfl ?_
  refine x_getf (pc := 15) (v := .int (w 0)) dX3_step_15 xf_X3_33 hAt_same rfl ?_
  refine x_istore_n (pc := 18) (L' := [(3, .int (w 0)), (2, .int (if (w 2) = (1 : Int32) then (1 : Int32) else (0 : Int32))), (0, .ref a), (1, .ref rr)]) dX3_step_18 rfl rfl ?_
  refine x_aload_n (pc := 19) dX3_step_19 rfl ?_
  refine x_getf (pc := 20) (v := .int (w 1)) dX3_step_20 xf_X3_39 hAt_same rfl ?_
  refine x_istore (pc := 23) (L' := [(4, .int (w 1)), (3, .int (w 0)), (2, .int (if (w 2) = (1 : Int32) then (1 : Int32) else (0 : Int32))), (0, .ref a), (1, .ref rr)]) dX3_step_23 rfl rfl ?_
  refine x_aload_n (pc := 25) dX3_step_25 rfl ?_
  refine x_aload_n (pc := 26) dX3_step_26 rfl ?_
  obtain ⟨q27, hp⟩ := hp
  refine x_cV1v (pc := 27) dX3_step_27 xl_X3_123 xv_X3_checkLow hAt_same rfl (C_X3_checkLow G _ a rr la ka w lf kf r hAt_same (hAt_n n_la_a k_la) (hAt_n n_ka_a k_ka) (hAt_n n_rr_a k_rr) q27) rfl rfl rfl ?_
  obtain ⟨F1, eF1⟩ : ∃ F, F = f_X3_checkLow w lf kf r := ⟨_, rfl⟩
  rw [← eF1]
  try rw [← eF1] at er
  try rw [← eF1] at hp
  refine Wp.eqh (h' := (hSet h a (waC la ka F1))) (hSet_set) ?_
  refine x_aload_n (pc := 30) dX3_step_30 rfl ?_
  refine x_getf (pc := 31) (v := .int (F1 0)) dX3_step_31 xf_X3_33 hAt_same rfl ?_
  refine x_iload_n (pc := 34) dX3_step_34 rfl ?_
  refine x_mrg (pc' := 52) (L' := [(4, .int (w 1)), (3, .int (w 0)), (2, .int (if (w 2) = (1 : Int32) then (1 : Int32) else (0 : Int32))), (0, .ref a), (1, .ref rr)]) (st' := [.int (if (F1 0) = (w 0) then (if (F1 1) = (w 1) then (0 : Int32) else (1 : Int32)) else (1 : Int32))]) (h' := (hSet h a (waC la ka F1))) (fun J => ?_) ?_
  · refine x_icmp_ne (pc := 35) (tgt := 47) dX3_step_35 (by decide) (fun (c2 : ¬ ((F1 0) = (w 0))) => ?_) (fun (c2 : (F1 0) = (w 0)) => ?_)
    · refine x_iconst (pc := 47) (v := (1 : Int32)) dX3_step_47 (by decide) ?_
      refine x_goto (pc := 48) (tgt := 52) dX3_step_48 (by decide) ?_
      rw [if_neg c2] at J
      exact J
    · refine x_aload_n (pc := 38) dX3_step_38 rfl ?_
      refine x_getf (pc := 39) (v := .int (F1 1)) dX3_step_39 xf_X3_39 hAt_same rfl ?_
      refine x_iload (pc := 42) dX3_step_42 rfl ?_
      refine x_icmp_eq (pc := 44) (tgt := 51) dX3_step_44 (by decide) (fun (c3 : (F1 1) = (w 1)) => ?_) (fun (c3 : ¬ ((F1 1) = (w 1))) => ?_)
      · refine x_iconst (pc := 51) (v := (0 : Int32)) dX3_step_51 (by decide) ?_
        rw [if_pos c2, if_pos c3] at J
        exact J
      · refine x_iconst (pc := 47) (v := (1 : Int32)) dX3_step_47 (by decide) ?_
        refine x_goto (pc := 48) (tgt := 52) dX3_step_48 (by decide) ?_
        rw [if_pos c2, if_neg c3] at J
        exact J
  refine x_istore (pc := 52) (L' := [(5, .int (if (F1 0) = (w 0) then (if (F1 1) = (w 1) then (0 : Int32) else (1 : Int32)) else (1 : Int32))), (4, .int (w 1)), (3, .int (w 0)), (2, .int (if (w 2) = (1 : Int32) then (1 : Int32) else (0 : Int32))), (0, .ref a), (1, .ref rr)]) dX3_step_52 rfl rfl ?_
  refine x_iload (pc := 54) dX3_step_54 rfl ?_
  obtain ⟨F2, eF2⟩ : ∃ F, F = g_X3_step_56 (if (F1 0) = (w 0) then (if (F1 1) = (w 1) then (0 : Int32) else (1 : Int32)) else (1 : Int32)) F1 := ⟨_, rfl⟩
  try rw [← eF2] at er
  try rw [← eF2] at hp
  refine x_mrg (pc' := 64) (L' := [(5, .int (if (F1 0) = (w 0) then (if (F1 1) = (w 1) then (0 : Int32) else (1 : Int32)) else (1 : Int32))), (4, .int (w 1)), (3, .int (w 0)), (2, .int (if (w 2) = (1 : Int32) then (1 : Int32) else (0 : Int32))), (0, .ref a), (1, .ref rr)]) (st' := []) (h' := (hSet h a (waC la ka F2))) (fun J => ?_) ?_
  · unfold g_X3_step_56 at eF2
    try rw [← eF1] at eF2
    refine x_if_eq (pc := 56) (tgt := 64) dX3_step_56 (by decide) (fun (c5 : (if (F1 0) = (w 0) then (if (F1 1) = (w 1) then (0 : Int32) else (1 : Int32)) else (1 : Int32)) = 0) => ?_) (fun (c5 : ¬ ((if (F1 0) = (w 0) then (if (F1 1) = (w 1) then (0 : Int32) else (1 : Int32)) else (1 : Int32)) = 0)) => ?_)
    · rw [if_pos c5] at eF2
      subst eF2
      exact J
    · rw [if_neg c5] at eF2
      refine x_aload_n (pc := 59) dX3_step_59 rfl ?_
      refine x_iconst (pc := 60) (v := (0 : Int32)) dX3_step_60 (by decide) ?_
      refine x_putf (pc := 61) (e' := waC la ka (upd F1 3 (0 : Int32))) dX3_step_61 xf_X3_49 hAt_same rfl rfl rfl rfl ?_
      refine Wp.eqh (h' := (hSet h a (waC la ka (upd F1 3 (0 : Int32))))) (hSet_set) ?_
      subst eF2
      exact J
  refine x_aload_n (pc := 64) dX3_step_64 rfl ?_
  refine x_getf (pc := 65) (v := .int (F2 0)) dX3_step_65 xf_X3_33 hAt_same rfl ?_
  refine x_aload_n (pc := 68) dX3_step_68 rfl ?_
  refine x_getf (pc := 69) (v := .int (F2 1)) dX3_step_69 xf_X3_39 hAt_same rfl ?_
  obtain ⟨qr72, hp⟩ := hp
  obtain ⟨F11, eF11⟩ : ∃ F, F = g_X3_step_72 lf kf r (if (F1 0) = (w 0) then (if (F1 1) = (w 1) then (0 : Int32) else (1 : Int32)) else (1 : Int32)) (if (w 2) = (1 : Int32) then (1 : Int32) else (0 : Int32)) F2 (F2 1) (F2 0) := ⟨_, rfl⟩
  try rw [← eF11] at er
  try rw [← eF11] at hp
  refine x_mrg (pc' := 101) (L' := [(5, .int (if (F1 0) = (w 0) then (if (F1 1) = (w 1) then (0 : Int32) else (1 : Int32)) else (1 : Int32))), (4, .int (w 1)), (3, .int (w 0)), (2, .int (if (w 2) = (1 : Int32) then (1 : Int32) else (0 : Int32))), (0, .ref a), (1, .ref rr)]) (st' := []) (h' := (hSet h a (waC la ka F11))) (fun J => ?_) ?_
  · unfold g_X3_step_72 at eF11
    unfold h_X3_step_72 at qr72
    try rw [← eF1] at eF11
    try rw [← eF1] at qr72
    refine x_icmp_ge (pc := 72) (tgt := 92) dX3_step_72 (by decide) (fun (c11 : (F2 1) ≤ (F2 0)) => ?_) (fun (c11 : ¬ ((F2 1) ≤ (F2 0))) => ?_)
    · rw [if_pos c11] at eF11
      replace qr72 := qr72.1 c11
      refine x_iload_n (pc := 92) dX3_step_92 rfl ?_
      refine x_if_eq (pc := 93) (tgt := 101) dX3_step_93 (by decide) (fun (c12 : (if (w 2) = (1 : Int32) then (1 : Int32) else (0 : Int32)) = 0) => ?_) (fun (c12 : ¬ ((if (w 2) = (1 : Int32) then (1 : Int32) else (0 : Int32)) = 0)) => ?_)
      · rw [if_pos c12] at eF11
        replace qr72 := qr72.1 c12
        subst eF11
        exact J
      · rw [if_neg c12] at eF11
        replace qr72 := qr72.2 c12
        refine x_aload_n (pc := 96) dX3_step_96 rfl ?_
        refine x_aload_n (pc := 97) dX3_step_97 rfl ?_
        refine x_cV1v (pc := 98) dX3_step_98 xl_X3_129 xv_X3_growOlder hAt_same rfl (C_X3_growOlder G _ a rr la ka F2 r hAt_same (hAt_n n_rr_a k_rr)) rfl rfl rfl ?_
        obtain ⟨F7, eF7⟩ : ∃ F, F = f_X3_growOlder F2 r := ⟨_, rfl⟩
        rw [← eF7]
        try rw [← eF7] at eF11
        try rw [← eF7] at qr72
        refine Wp.eqh (h' := (hSet h a (waC la ka F7))) (hSet_set) ?_
        subst eF11
        exact J
    · rw [if_neg c11] at eF11
      replace qr72 := qr72.2 c11
      refine x_iload (pc := 75) dX3_step_75 rfl ?_
      refine x_if_ne (pc := 77) (tgt := 84) dX3_step_77 (by decide) (fun (c13 : ¬ ((if (F1 0) = (w 0) then (if (F1 1) = (w 1) then (0 : Int32) else (1 : Int32)) else (1 : Int32)) = 0)) => ?_) (fun (c13 : (if (F1 0) = (w 0) then (if (F1 1) = (w 1) then (0 : Int32) else (1 : Int32)) else (1 : Int32)) = 0) => ?_)
      · rw [if_neg c13] at eF11
        replace qr72 := qr72.2 c13
        refine x_aload_n (pc := 84) dX3_step_84 rfl ?_
        refine x_aload_n (pc := 85) dX3_step_85 rfl ?_
        obtain ⟨q86, qr72⟩ := qr72
        refine x_cV1v (pc := 86) dX3_step_86 xl_X3_126 xv_X3_search hAt_same rfl (C_X3_search G _ a rr la ka F2 lf kf r hAt_same (hAt_n n_la_a k_la) (hAt_n n_ka_a k_ka) (hAt_n n_rr_a k_rr) q86) rfl rfl rfl ?_
        obtain ⟨F8, eF8⟩ : ∃ F, F = f_X3_search F2 lf kf r := ⟨_, rfl⟩
        rw [← eF8]
        try rw [← eF8] at eF11
        try rw [← eF8] at qr72
        refine Wp.eqh (h' := (hSet h a (waC la ka F8))) (hSet_set) ?_
        refine x_goto (pc := 89) (tgt := 101) dX3_step_89 (by decide) ?_
        subst eF11
        exact J
      · rw [if_pos c13] at eF11
        replace qr72 := qr72.1 c13
        refine x_iload_n (pc := 80) dX3_step_80 rfl ?_
        refine x_if_ne (pc := 81) (tgt := 92) dX3_step_81 (by decide) (fun (c14 : ¬ ((if (w 2) = (1 : Int32) then (1 : Int32) else (0 : Int32)) = 0)) => ?_) (fun (c14 : (if (w 2) = (1 : Int32) then (1 : Int32) else (0 : Int32)) = 0) => ?_)
        · rw [if_neg c14] at eF11
          replace qr72 := qr72.2 c14
          refine x_iload_n (pc := 92) dX3_step_92 rfl ?_
          refine x_if_eq (pc := 93) (tgt := 101) dX3_step_93 (by decide) (fun (c15 : (if (w 2) = (1 : Int32) then (1 : Int32) else (0 : Int32)) = 0) => ?_) (fun (c15 : ¬ ((if (w 2) = (1 : Int32) then (1 : Int32) else (0 : Int32)) = 0)) => ?_)
          · rw [if_pos c15] at eF11
            replace qr72 := qr72.1 c15
            subst eF11
            exact J
          · rw [if_neg c15] at eF11
            replace qr72 := qr72.2 c15
            refine x_aload_n (pc := 96) dX3_step_96 rfl ?_
            refine x_aload_n (pc := 97) dX3_step_97 rfl ?_
            refine x_cV1v (pc := 98) dX3_step_98 xl_X3_129 xv_X3_growOlder hAt_same rfl (C_X3_growOlder G _ a rr la ka F2 r hAt_same (hAt_n n_rr_a k_rr)) rfl rfl rfl ?_
            obtain ⟨F9, eF9⟩ : ∃ F, F = f_X3_growOlder F2 r := ⟨_, rfl⟩
            rw [← eF9]
            try rw [← eF9] at eF11
            try rw [← eF9] at qr72
            refine Wp.eqh (h' := (hSet h a (waC la ka F9))) (hSet_set) ?_
            subst eF11
            exact J
        · rw [if_pos c14] at eF11
          replace qr72 := qr72.1 c14
          refine x_aload_n (pc := 84) dX3_step_84 rfl ?_
          refine x_aload_n (pc := 85) dX3_step_85 rfl ?_
          obtain ⟨q86, qr72⟩ := qr72
          refine x_cV1v (pc := 86) dX3_step_86 xl_X3_126 xv_X3_search hAt_same rfl (C_X3_search G _ a rr la ka F2 lf kf r hAt_same (hAt_n n_la_a k_la) (hAt_n n_ka_a k_ka) (hAt_n n_rr_a k_rr) q86) rfl rfl rfl ?_
          obtain ⟨F10, eF10⟩ : ∃ F, F = f_X3_search F2 lf kf r := ⟨_, rfl⟩
          rw [← eF10]
          try rw [← eF10] at eF11
          try rw [← eF10] at qr72
          refine Wp.eqh (h' := (hSet h a (waC la ka F10))) (hSet_set) ?_
          refine x_goto (pc := 89) (tgt := 101) dX3_step_89 (by decide) ?_
          subst eF11
          exact J
  refine x_aload_n (pc := 101) dX3_step_101 rfl ?_
  refine x_aload_n (pc := 102) dX3_step_102 rfl ?_
  refine x_cV0i (pc := 103) dX3_step_103 xl_X3_42 xv_X3_isNarrowed hAt_same rfl (C_X3_isNarrowed G _ a la ka F11 hAt_same) rfl rfl rfl ?_
  obtain ⟨F12, eF12⟩ : ∃ F, F = f_X3_isNarrowed F11 := ⟨_, rfl⟩
  rw [← eF12]
  try rw [← eF12] at er
  try rw [← eF12] at hp
  have bF12 : xB F12 := by rw [eF12]; exact (B_X3_isNarrowed _)
  refine x_mrg (pc' := 114) (L' := [(5, .int (if (F1 0) = (w 0) then (if (F1 1) = (w 1) then (0 : Int32) else (1 : Int32)) else (1 : Int32))), (4, .int (w 1)), (3, .int (w 0)), (2, .int (if (w 2) = (1 : Int32) then (1 : Int32) else (0 : Int32))), (0, .ref a), (1, .ref rr)]) (st' := [.int (if F12 = 0 then (0 : Int32) else (1 : Int32)), .ref a]) (h' := (hSet h a (waC la ka F11))) (fun J => ?_) ?_
  · refine x_if_eq (pc := 106) (tgt := 113) dX3_step_106 (by decide) (fun (c16 : F12 = 0) => ?_) (fun (c16 : ¬ (F12 = 0)) => ?_)
    · refine x_iconst (pc := 113) (v := (0 : Int32)) dX3_step_113 (by decide) ?_
      rw [if_pos c16] at J
      exact J
    · refine x_iconst (pc := 109) (v := (1 : Int32)) dX3_step_109 (by decide) ?_
      refine x_goto (pc := 110) (tgt := 114) dX3_step_110 (by decide) ?_
      rw [if_neg c16] at J
      exact J
  refine x_putf (pc := 114) (e' := waC la ka (upd F11 2 (if F12 = 0 then (0 : Int32) else (1 : Int32)))) dX3_step_114 xf_X3_46 hAt_same rfl rfl rfl rfl ?_
  refine Wp.eqh (h' := (hSet h a (waC la ka (upd F11 2 (if F12 = 0 then (0 : Int32) else (1 : Int32)))))) (hSet_set) ?_
  refine x_aload_n (pc := 117) dX3_step_117 rfl ?_
  refine x_getf (pc := 118) (v := .int ((upd F11 2 (if F12 = 0 then (0 : Int32) else (1 : Int32))) 2)) dX3_step_118 xf_X3_46 hAt_same rfl ?_
  obtain ⟨F13, eF13⟩ : ∃ F, F = g_X3_step_121 (upd F11 2 (if F12 = 0 then (0 : Int32) else (1 : Int32))) ((upd F11 2 (if F12 = 0 then (0 : Int32) else (1 : Int32))) 2) := ⟨_, rfl⟩
  try rw [← eF13] at er
  try rw [← eF13] at hp
  refine x_mrg (pc' := 129) (L' := [(5, .int (if (F1 0) = (w 0) then (if (F1 1) = (w 1) then (0 : Int32) else (1 : Int32)) else (1 : Int32))), (4, .int (w 1)), (3, .int (w 0)), (2, .int (if (w 2) = (1 : Int32) then (1 : Int32) else (0 : Int32))), (0, .ref a), (1, .ref rr)]) (st' := []) (h' := (hSet h a (waC la ka F13))) (fun J => ?_) ?_
  · unfold g_X3_step_121 at eF13
    try rw [← eF1] at eF13
    try rw [← eF12] at eF13
    refine x_if_ne (pc := 121) (tgt := 129) dX3_step_121 (by decide) (fun (c18 : ¬ (((upd F11 2 (if F12 = 0 then (0 : Int32) else (1 : Int32))) 2) = 0)) => ?_) (fun (c18 : ((upd F11 2 (if F12 = 0 then (0 : Int32) else (1 : Int32))) 2) = 0) => ?_)
    · rw [if_neg c18] at eF13
      subst eF13
      exact J
    · rw [if_pos c18] at eF13
      refine x_aload_n (pc := 124) dX3_step_124 rfl ?_
      refine x_iconst (pc := 125) (v := (0 : Int32)) dX3_step_125 (by decide) ?_
      refine x_putf (pc := 126) (e' := waC la ka (upd (upd F11 2 (if F12 = 0 then (0 : Int32) else (1 : Int32))) 5 (0 : Int32))) dX3_step_126 xf_X3_55 hAt_same rfl rfl rfl rfl ?_
      refine Wp.eqh (h' := (hSet h a (waC la ka (upd (upd F11 2 (if F12 = 0 then (0 : Int32) else (1 : Int32))) 5 (0 : Int32))))) (hSet_set) ?_
      subst eF13
      exact J
  subst er
  exact x_vret (pc := 129) dX3_step_129 rfl rfl rfl ⟨rfl, rfl⟩

def l_X3_goOn_2 : Nat → (Nat → Int32) → (Nat → Int32) → (Nat → Int32) → (Nat → Int32) → Int32 → Int32 → (Nat → Int32) → Int32 × (Nat → Int32)
  | 0, _, _, _, _, _, _, _ => (0, (fun _ => 0))
  | n + 1, w, lf, kf, r, ticks, v3, x_a => (if ticks ≤ v3 then (v3, x_a) else (l_X3_goOn_2 n w lf kf r ticks (v3 + (1 : Int32)) (f_X3_step x_a lf kf r)))
def q_X3_goOn_2 : Nat → (Nat → Int32) → (Nat → Int32) → (Nat → Int32) → (Nat → Int32) → Int32 → Int32 → (Nat → Int32) → Prop
  | 0, _, _, _, _, _, _, _ => False
  | n + 1, w, lf, kf, r, ticks, v3, x_a => ((ticks ≤ v3 → True) ∧ (¬ (ticks ≤ v3) → (p_X3_step x_a lf kf r ∧ (q_X3_goOn_2 n w lf kf r ticks (v3 + (1 : Int32)) (f_X3_step x_a lf kf r)))))
set_option maxRecDepth 100000 in
set_option maxHeartbeats 4000000 in
theorem L_X3_goOn_2 (G : xG) (h : xH) (a rr la ka : Nat) (w lf kf r : Nat → Int32) (ticks : Int32) (k_a : hAt h a = some (waC la ka w)) (k_la : hAt h la = some (arI 6 lf)) (k_ka : hAt h ka = some (arI 6 kf)) (k_rr : hAt h rr = some (ruC r)) {Z : xZ} : ∀ (n : Nat) (v3 : Int32) (x_a : (Nat → Int32)), q_X3_goOn_2 n w lf kf r ticks v3 x_a → Wp G yX3_goOn.cls cX3_goOn 4 yX3_goOn.name none (xR 5 0 0) Z 0 0 18 [(3, .int (l_X3_goOn_2 n w lf kf r ticks v3 x_a).1), (0, .ref a), (1, .int ticks), (2, .ref rr)] [] (hSet h a (waC la ka (l_X3_goOn_2 n w lf kf r ticks v3 x_a).2)) → Wp G yX3_goOn.cls cX3_goOn 4 yX3_goOn.name none (xR 5 0 0) Z 0 0 2 [(3, .int v3), (0, .ref a), (1, .int ticks), (2, .ref rr)] [] (hSet h a (waC la ka x_a)) := by
  have n_ka_a : ka ≠ a := hne_k k_ka k_a rfl
  have n_la_a : la ≠ a := hne_k k_la k_a rfl
  have n_rr_a : rr ≠ a := hne_k k_rr k_a rfl
  intro n
  induction n with
  | zero => intro v3 x_a hp; exact absurd hp id
  | succ n ih =>
    intro v3 x_a hp kk
    obtain ⟨R, er⟩ : ∃ R, R = l_X3_goOn_2 (n + 1) w lf kf r ticks v3 x_a := ⟨_, rfl⟩
    rw [← er] at kk
    rw [l_X3_goOn_2] at er
    rw [q_X3_goOn_2] at hp
    refine x_iload_n (pc := 2) dX3_goOn_2 rfl ?_
    refine x_iload_n (pc := 3) dX3_goOn_3 rfl ?_
    refine x_icmp_ge (pc := 4) (tgt := 18) dX3_goOn_4 (by decide) (fun (c1 : ticks ≤ v3) => ?_) (fun (c1 : ¬ (ticks ≤ v3)) => ?_)
    · rw [if_pos c1] at er
      replace hp := hp.1 c1
      subst er
      exact kk
    · rw [if_neg c1] at er
      replace hp := hp.2 c1
      refine x_aload_n (pc := 7) dX3_goOn_7 rfl ?_
      refine x_aload_n (pc := 8) dX3_goOn_8 rfl ?_
      obtain ⟨q9, hp⟩ := hp
      refine x_cV1v (pc := 9) dX3_goOn_9 xl_X3_119 xv_X3_step hAt_same rfl (C_X3_step G _ a rr la ka x_a lf kf r hAt_same (hAt_n n_la_a k_la) (hAt_n n_ka_a k_ka) (hAt_n n_rr_a k_rr) q9) rfl rfl rfl ?_
      obtain ⟨F2, eF2⟩ : ∃ F, F = f_X3_step x_a lf kf r := ⟨_, rfl⟩
      rw [← eF2]
      try rw [← eF2] at er
      try rw [← eF2] at hp
      refine Wp.eqh (h' := (hSet h a (waC la ka F2))) (hSet_set) ?_
      refine x_iinc (pc := 12) (v := (v3 + (1 : Int32))) (L' := [(3, .int (v3 + (1 : Int32))), (0, .ref a), (1, .int ticks), (2, .ref rr)]) dX3_goOn_12 rfl rfl rfl rfl ?_
      refine x_goto (pc := 15) (tgt := 2) dX3_goOn_15 (by decide) ?_
      subst er
      exact ih (v3 + (1 : Int32)) F2 hp kk
def f_X3_goOn (w lf kf r : Nat → Int32) (ticks : Int32) : (Nat → Int32) := (l_X3_goOn_2 xK w lf kf r ticks (0 : Int32) w).2
def p_X3_goOn (w lf kf r : Nat → Int32) (ticks : Int32) : Prop := ((q_X3_goOn_2 xK w lf kf r ticks (0 : Int32) w) ∧ True)
set_option maxRecDepth 100000 in
set_option maxHeartbeats 4000000 in
theorem C_X3_goOn (G : xG) (h : xH) (a rr la ka : Nat) (w lf kf r : Nat → Int32) (ticks : Int32) (k_a : hAt h a = some (waC la ka w)) (k_la : hAt h la = some (arI 6 lf)) (k_ka : hAt h ka = some (arI 6 kf)) (k_rr : hAt h rr = some (ruC r)) (hp : p_X3_goOn w lf kf r ticks) : Cd G 5 yX3_goOn cX3_goOn 4 none [.ref a, .int ticks, .ref rr] h none (hSet h a (waC la ka (f_X3_goOn w lf kf r ticks))) := by
  have n_ka_a : ka ≠ a := hne_k k_ka k_a rfl
  have n_la_a : la ≠ a := hne_k k_la k_a rfl
  have n_rr_a : rr ≠ a := hne_k k_rr k_a rfl
  refine Ct.of (by decide) (by rfl) ?_
  refine Wp.eqs (L' := [(0, .ref a), (1, .int ticks), (2, .ref rr)]) (st' := []) rfl rfl ?_
  refine Wp.eqh (h' := (hSet h a (waC la ka w))) (by rw [hSet_self k_a]) ?_
  obtain ⟨R, er⟩ : ∃ R, R = f_X3_goOn w lf kf r ticks := ⟨_, rfl⟩
  rw [← er]
  unfold f_X3_goOn at er
  unfold p_X3_goOn at hp
  refine x_iconst (pc := 0) (v := (0 : Int32)) dX3_goOn_0 (by decide) ?_
  refine x_istore_n (pc := 1) (L' := [(3, .int (0 : Int32)), (0, .ref a), (1, .int ticks), (2, .ref rr)]) dX3_goOn_1 rfl rfl ?_
  obtain ⟨ql2, hp⟩ := hp
  refine L_X3_goOn_2 G h a rr la ka w lf kf r ticks k_a k_la k_ka k_rr  xK (0 : Int32) w ql2 ?_
  obtain ⟨F3, eF3⟩ : ∃ F, F = l_X3_goOn_2 xK w lf kf r ticks (0 : Int32) w := ⟨_, rfl⟩
  rw [← eF3]
  try rw [← eF3] at er
  try rw [← eF3] at hp
  subst er
  exact x_vret (pc := 18) dX3_goOn_18 rfl rfl rfl ⟨rfl, rfl⟩
end
section
def f_X5_in (v lo hi : Int32) : Int32 := (if v < lo then (0 : Int32) else (if hi < v then (0 : Int32) else (1 : Int32)))
set_option maxRecDepth 100000 in
set_option maxHeartbeats 4000000 in
theorem C_X5_in (G : xG) (h : xH) (v lo hi : Int32) : Cd G 0 yX5_in cX5_in 3 (some .boolean) [.int v, .int lo, .int hi] h (some (.int (f_X5_in v lo hi))) h := by
  refine Ct.of (by decide) (by rfl) ?_
  refine Wp.eqs (L' := [(0, .int v), (1, .int lo), (2, .int hi)]) (st' := []) rfl rfl ?_
  obtain ⟨R, er⟩ : ∃ R, R = f_X5_in v lo hi := ⟨_, rfl⟩
  rw [← er]
  unfold f_X5_in at er
  refine x_iload_n (pc := 0) dX5_in_0 rfl ?_
  refine x_iload_n (pc := 1) dX5_in_1 rfl ?_
  refine x_mrg (pc' := 15) (L' := [(0, .int v), (1, .int lo), (2, .int hi)]) (st' := [.int (if v < lo then (0 : Int32) else (if hi < v then (0 : Int32) else (1 : Int32)))]) (h' := h) (fun J => ?_) ?_
  · refine x_icmp_lt (pc := 2) (tgt := 14) dX5_in_2 (by decide) (fun (c1 : v < lo) => ?_) (fun (c1 : ¬ (v < lo)) => ?_)
    · refine x_iconst (pc := 14) (v := (0 : Int32)) dX5_in_14 (by decide) ?_
      rw [if_pos c1] at J
      exact J
    · refine x_iload_n (pc := 5) dX5_in_5 rfl ?_
      refine x_iload_n (pc := 6) dX5_in_6 rfl ?_
      refine x_icmp_gt (pc := 7) (tgt := 14) dX5_in_7 (by decide) (fun (c2 : hi < v) => ?_) (fun (c2 : ¬ (hi < v)) => ?_)
      · refine x_iconst (pc := 14) (v := (0 : Int32)) dX5_in_14 (by decide) ?_
        rw [if_neg c1, if_pos c2] at J
        exact J
      · refine x_iconst (pc := 10) (v := (1 : Int32)) dX5_in_10 (by decide) ?_
        refine x_goto (pc := 11) (tgt := 15) dX5_in_11 (by decide) ?_
        rw [if_neg c1, if_neg c2] at J
        exact J
  subst er
  exact x_iret (pc := 15) dX5_in_15 rfl (xb_nar (xB_ite xB0 (xB_ite xB0 xB1))) rfl rfl ⟨rfl, rfl⟩
theorem B_X5_in (v lo hi : Int32) : xB (f_X5_in v lo hi) := by
  unfold f_X5_in
  exact (xB_ite xB0 (xB_ite xB0 xB1))

def f_X5_lesser (x y : Int32) : Int32 := (if y ≤ x then y else x)
set_option maxRecDepth 100000 in
set_option maxHeartbeats 4000000 in
theorem C_X5_lesser (G : xG) (h : xH) (x y : Int32) : Cd G 0 yX5_lesser cX5_lesser 2 (some .int) [.int x, .int y] h (some (.int (f_X5_lesser x y))) h := by
  refine Ct.of (by decide) (by rfl) ?_
  refine Wp.eqs (L' := [(0, .int x), (1, .int y)]) (st' := []) rfl rfl ?_
  obtain ⟨R, er⟩ : ∃ R, R = f_X5_lesser x y := ⟨_, rfl⟩
  rw [← er]
  unfold f_X5_lesser at er
  refine x_iload_n (pc := 0) dX5_lesser_0 rfl ?_
  refine x_iload_n (pc := 1) dX5_lesser_1 rfl ?_
  refine x_mrg (pc' := 10) (L' := [(0, .int x), (1, .int y)]) (st' := [.int (if y ≤ x then y else x)]) (h' := h) (fun J => ?_) ?_
  · refine x_icmp_ge (pc := 2) (tgt := 9) dX5_lesser_2 (by decide) (fun (c1 : y ≤ x) => ?_) (fun (c1 : ¬ (y ≤ x)) => ?_)
    · refine x_iload_n (pc := 9) dX5_lesser_9 rfl ?_
      rw [if_pos c1] at J
      exact J
    · refine x_iload_n (pc := 5) dX5_lesser_5 rfl ?_
      refine x_goto (pc := 6) (tgt := 10) dX5_lesser_6 (by decide) ?_
      rw [if_neg c1] at J
      exact J
  subst er
  exact x_iret (pc := 10) dX5_lesser_10 rfl rfl rfl rfl ⟨rfl, rfl⟩

def f_X5_greater (x y : Int32) : Int32 := (if x ≤ y then y else x)
set_option maxRecDepth 100000 in
set_option maxHeartbeats 4000000 in
theorem C_X5_greater (G : xG) (h : xH) (x y : Int32) : Cd G 0 yX5_greater cX5_greater 2 (some .int) [.int x, .int y] h (some (.int (f_X5_greater x y))) h := by
  refine Ct.of (by decide) (by rfl) ?_
  refine Wp.eqs (L' := [(0, .int x), (1, .int y)]) (st' := []) rfl rfl ?_
  obtain ⟨R, er⟩ : ∃ R, R = f_X5_greater x y := ⟨_, rfl⟩
  rw [← er]
  unfold f_X5_greater at er
  refine x_iload_n (pc := 0) dX5_greater_0 rfl ?_
  refine x_iload_n (pc := 1) dX5_greater_1 rfl ?_
  refine x_mrg (pc' := 10) (L' := [(0, .int x), (1, .int y)]) (st' := [.int (if x ≤ y then y else x)]) (h' := h) (fun J => ?_) ?_
  · refine x_icmp_le (pc := 2) (tgt := 9) dX5_greater_2 (by decide) (fun (c1 : x ≤ y) => ?_) (fun (c1 : ¬ (x ≤ y)) => ?_)
    · refine x_iload_n (pc := 9) dX5_greater_9 rfl ?_
      rw [if_pos c1] at J
      exact J
    · refine x_iload_n (pc := 5) dX5_greater_5 rfl ?_
      refine x_goto (pc := 6) (tgt := 10) dX5_greater_6 (by decide) ?_
      rw [if_neg c1] at J
      exact J
  subst er
  exact x_iret (pc := 10) dX5_greater_10 rfl rfl rfl rfl ⟨rfl, rfl⟩

def f_X5_at (i k : Int32) : Int32 := (((7 : Int32) + ((24 : Int32) * i)) + k)
set_option maxRecDepth 100000 in
set_option maxHeartbeats 4000000 in
theorem C_X5_at (G : xG) (h : xH) (i k : Int32) : Cd G 0 yX5_at cX5_at 2 (some .int) [.int i, .int k] h (some (.int (f_X5_at i k))) h := by
  refine Ct.of (by decide) (by rfl) ?_
  refine Wp.eqs (L' := [(0, .int i), (1, .int k)]) (st' := []) rfl rfl ?_
  obtain ⟨R, er⟩ : ∃ R, R = f_X5_at i k := ⟨_, rfl⟩
  rw [← er]
  unfold f_X5_at at er
  refine x_bipush (pc := 0) (v := (7 : Int32)) dX5_at_0 (by decide) ?_
  refine x_bipush (pc := 2) (v := (24 : Int32)) dX5_at_2 (by decide) ?_
  refine x_iload_n (pc := 4) dX5_at_4 rfl ?_
  refine x_imul (pc := 5) dX5_at_5 ?_
  refine x_iadd (pc := 6) dX5_at_6 ?_
  refine x_iload_n (pc := 7) dX5_at_7 rfl ?_
  refine x_iadd (pc := 8) dX5_at_8 ?_
  subst er
  exact x_iret (pc := 9) dX5_at_9 rfl rfl rfl rfl ⟨rfl, rfl⟩
end
section
def l_X5_copiesA_3 : Nat → (Nat → Int32) → (Nat → Int32) → Int32 → Int32 → Int32 → (Nat → Int32) → Int32 × (Nat → Int32)
  | 0, _, _, _, _, _, _ => (0, (fun _ => 0))
  | n + 1, ff, gf, i, j, v4, x_ga => (if (103 : Int32) ≤ v4 then (v4, x_ga) else (l_X5_copiesA_3 n ff gf i j (v4 + (1 : Int32)) (upd x_ga ((j + v4).toNatClampNeg) (ff ((i + v4).toNatClampNeg)))))
def q_X5_copiesA_3 : Nat → (Nat → Int32) → (Nat → Int32) → Int32 → Int32 → Int32 → (Nat → Int32) → Prop
  | 0, _, _, _, _, _, _ => False
  | n + 1, ff, gf, i, j, v4, x_ga => (((103 : Int32) ≤ v4 → True) ∧ (¬ ((103 : Int32) ≤ v4) → (vp_in (i + v4) 103 ∧ (vp_in (j + v4) 103 ∧ (q_X5_copiesA_3 n ff gf i j (v4 + (1 : Int32)) (upd x_ga ((j + v4).toNatClampNeg) (ff ((i + v4).toNatClampNeg))))))))
set_option maxRecDepth 100000 in
set_option maxHeartbeats 4000000 in
theorem L_X5_copiesA_3 (G : xG) (h : xH) (fa ga : Nat) (ff gf : Nat → Int32) (i j : Int32) (k_fa : hAt h fa = some (arI 103 ff)) (k_ga : hAt h ga = some (arI 103 gf)) (n_fa_ga : fa ≠ ga) {Z : xZ} : ∀ (n : Nat) (v4 : Int32) (x_ga : (Nat → Int32)), q_X5_copiesA_3 n ff gf i j v4 x_ga → Wp G yX5_copies.cls cX5_copies 5 yX5_copies.name none (xR 0 0 0) Z 0 0 28 [(4, .int (l_X5_copiesA_3 n ff gf i j v4 x_ga).1), (0, .ref fa), (1, .int i), (2, .ref ga), (3, .int j)] [] (hSet h ga (arI 103 (l_X5_copiesA_3 n ff gf i j v4 x_ga).2)) → Wp G yX5_copies.cls cX5_copies 5 yX5_copies.name none (xR 0 0 0) Z 0 0 3 [(4, .int v4), (0, .ref fa), (1, .int i), (2, .ref ga), (3, .int j)] [] (hSet h ga (arI 103 x_ga)) := by
  intro n
  induction n with
  | zero => intro v4 x_ga hp; exact absurd hp id
  | succ n ih =>
    intro v4 x_ga hp kk
    obtain ⟨R, er⟩ : ∃ R, R = l_X5_copiesA_3 (n + 1) ff gf i j v4 x_ga := ⟨_, rfl⟩
    rw [← er] at kk
    rw [l_X5_copiesA_3] at er
    rw [q_X5_copiesA_3] at hp
    refine x_iload (pc := 3) dX5_copies_3 rfl ?_
    refine x_bipush (pc := 5) (v := (103 : Int32)) dX5_copies_5 (by decide) ?_
    refine x_icmp_ge (pc := 7) (tgt := 28) dX5_copies_7 (by decide) (fun (c1 : (103 : Int32) ≤ v4) => ?_) (fun (c1 : ¬ ((103 : Int32) ≤ v4)) => ?_)
    · rw [if_pos c1] at er
      replace hp := hp.1 c1
      subst er
      exact kk
    · rw [if_neg c1] at er
      replace hp := hp.2 c1
      refine x_aload_n (pc := 10) dX5_copies_10 rfl ?_
      refine x_iload_n (pc := 11) dX5_copies_11 rfl ?_
      refine x_iload (pc := 12) dX5_copies_12 rfl ?_
      refine x_iadd (pc := 14) dX5_copies_14 ?_
      refine x_aload_n (pc := 15) dX5_copies_15 rfl ?_
      refine x_iload_n (pc := 16) dX5_copies_16 rfl ?_
      refine x_iload (pc := 17) dX5_copies_17 rfl ?_
      refine x_iadd (pc := 19) dX5_copies_19 ?_
      obtain ⟨q20, hp⟩ := hp
      refine x_iald (pc := 20) dX5_copies_20 (hAt_n n_fa_ga k_fa) q20 (j := ((i + v4).toNatClampNeg)) rfl ?_
      obtain ⟨q21, hp⟩ := hp
      refine x_iast (pc := 21) (e' := arI 103 (upd x_ga ((j + v4).toNatClampNeg) (ff ((i + v4).toNatClampNeg)))) dX5_copies_21 hAt_same q21 (j := ((j + v4).toNatClampNeg)) rfl rfl ?_
      refine Wp.eqh (h' := (hSet h ga (arI 103 (upd x_ga ((j + v4).toNatClampNeg) (ff ((i + v4).toNatClampNeg)))))) (hSet_set) ?_
      refine x_iinc (pc := 22) (v := (v4 + (1 : Int32))) (L' := [(4, .int (v4 + (1 : Int32))), (0, .ref fa), (1, .int i), (2, .ref ga), (3, .int j)]) dX5_copies_22 rfl rfl rfl rfl ?_
      refine x_goto (pc := 25) (tgt := 3) dX5_copies_25 (by decide) ?_
      subst er
      exact ih (v4 + (1 : Int32)) (upd x_ga ((j + v4).toNatClampNeg) (ff ((i + v4).toNatClampNeg))) hp kk
def f_X5_copiesA (ff gf : Nat → Int32) (i j : Int32) : (Nat → Int32) := (l_X5_copiesA_3 xK ff gf i j (0 : Int32) gf).2
def p_X5_copiesA (ff gf : Nat → Int32) (i j : Int32) : Prop := ((q_X5_copiesA_3 xK ff gf i j (0 : Int32) gf) ∧ True)
set_option maxRecDepth 100000 in
set_option maxHeartbeats 4000000 in
theorem C_X5_copiesA (G : xG) (h : xH) (fa ga : Nat) (ff gf : Nat → Int32) (i j : Int32) (k_fa : hAt h fa = some (arI 103 ff)) (k_ga : hAt h ga = some (arI 103 gf)) (n_fa_ga : fa ≠ ga) (hp : p_X5_copiesA ff gf i j) : Cd G 0 yX5_copies cX5_copies 5 none [.ref fa, .int i, .ref ga, .int j] h none (hSet h ga (arI 103 (f_X5_copiesA ff gf i j))) := by
  refine Ct.of (by decide) (by rfl) ?_
  refine Wp.eqs (L' := [(0, .ref fa), (1, .int i), (2, .ref ga), (3, .int j)]) (st' := []) rfl rfl ?_
  refine Wp.eqh (h' := (hSet h ga (arI 103 gf))) (by rw [hSet_self k_ga]) ?_
  obtain ⟨R, er⟩ : ∃ R, R = f_X5_copiesA ff gf i j := ⟨_, rfl⟩
  rw [← er]
  unfold f_X5_copiesA at er
  unfold p_X5_copiesA at hp
  refine x_iconst (pc := 0) (v := (0 : Int32)) dX5_copies_0 (by decide) ?_
  refine x_istore (pc := 1) (L' := [(4, .int (0 : Int32)), (0, .ref fa), (1, .int i), (2, .ref ga), (3, .int j)]) dX5_copies_1 rfl rfl ?_
  obtain ⟨ql3, hp⟩ := hp
  refine L_X5_copiesA_3 G h fa ga ff gf i j k_fa k_ga n_fa_ga xK (0 : Int32) gf ql3 ?_
  obtain ⟨F1, eF1⟩ : ∃ F, F = l_X5_copiesA_3 xK ff gf i j (0 : Int32) gf := ⟨_, rfl⟩
  rw [← eF1]
  try rw [← eF1] at er
  try rw [← eF1] at hp
  subst er
  exact x_vret (pc := 28) dX5_copies_28 rfl rfl rfl ⟨rfl, rfl⟩

def l_X5_copiesB_3 : Nat → (Nat → Int32) → (Nat → Int32) → Int32 → Int32 → Int32 → (Nat → Int32) → Int32 × (Nat → Int32)
  | 0, _, _, _, _, _, _ => (0, (fun _ => 0))
  | n + 1, ff, gf, i, j, v4, x_ga => (if (103 : Int32) ≤ v4 then (v4, x_ga) else (l_X5_copiesB_3 n ff gf i j (v4 + (1 : Int32)) (upd x_ga ((j + v4).toNatClampNeg) (ff ((i + v4).toNatClampNeg)))))
def q_X5_copiesB_3 : Nat → (Nat → Int32) → (Nat → Int32) → Int32 → Int32 → Int32 → (Nat → Int32) → Prop
  | 0, _, _, _, _, _, _ => False
  | n + 1, ff, gf, i, j, v4, x_ga => (((103 : Int32) ≤ v4 → True) ∧ (¬ ((103 : Int32) ≤ v4) → (vp_in (i + v4) 103 ∧ (vp_in (j + v4) 412 ∧ (q_X5_copiesB_3 n ff gf i j (v4 + (1 : Int32)) (upd x_ga ((j + v4).toNatClampNeg) (ff ((i + v4).toNatClampNeg))))))))
set_option maxRecDepth 100000 in
set_option maxHeartbeats 4000000 in
theorem L_X5_copiesB_3 (G : xG) (h : xH) (fa ga : Nat) (ff gf : Nat → Int32) (i j : Int32) (k_fa : hAt h fa = some (arI 103 ff)) (k_ga : hAt h ga = some (arI 412 gf)) (n_fa_ga : fa ≠ ga) {Z : xZ} : ∀ (n : Nat) (v4 : Int32) (x_ga : (Nat → Int32)), q_X5_copiesB_3 n ff gf i j v4 x_ga → Wp G yX5_copies.cls cX5_copies 5 yX5_copies.name none (xR 0 0 0) Z 0 0 28 [(4, .int (l_X5_copiesB_3 n ff gf i j v4 x_ga).1), (0, .ref fa), (1, .int i), (2, .ref ga), (3, .int j)] [] (hSet h ga (arI 412 (l_X5_copiesB_3 n ff gf i j v4 x_ga).2)) → Wp G yX5_copies.cls cX5_copies 5 yX5_copies.name none (xR 0 0 0) Z 0 0 3 [(4, .int v4), (0, .ref fa), (1, .int i), (2, .ref ga), (3, .int j)] [] (hSet h ga (arI 412 x_ga)) := by
  intro n
  induction n with
  | zero => intro v4 x_ga hp; exact absurd hp id
  | succ n ih =>
    intro v4 x_ga hp kk
    obtain ⟨R, er⟩ : ∃ R, R = l_X5_copiesB_3 (n + 1) ff gf i j v4 x_ga := ⟨_, rfl⟩
    rw [← er] at kk
    rw [l_X5_copiesB_3] at er
    rw [q_X5_copiesB_3] at hp
    refine x_iload (pc := 3) dX5_copies_3 rfl ?_
    refine x_bipush (pc := 5) (v := (103 : Int32)) dX5_copies_5 (by decide) ?_
    refine x_icmp_ge (pc := 7) (tgt := 28) dX5_copies_7 (by decide) (fun (c1 : (103 : Int32) ≤ v4) => ?_) (fun (c1 : ¬ ((103 : Int32) ≤ v4)) => ?_)
    · rw [if_pos c1] at er
      replace hp := hp.1 c1
      subst er
      exact kk
    · rw [if_neg c1] at er
      replace hp := hp.2 c1
      refine x_aload_n (pc := 10) dX5_copies_10 rfl ?_
      refine x_iload_n (pc := 11) dX5_copies_11 rfl ?_
      refine x_iload (pc := 12) dX5_copies_12 rfl ?_
      refine x_iadd (pc := 14) dX5_copies_14 ?_
      refine x_aload_n (pc := 15) dX5_copies_15 rfl ?_
      refine x_iload_n (pc := 16) dX5_copies_16 rfl ?_
      refine x_iload (pc := 17) dX5_copies_17 rfl ?_
      refine x_iadd (pc := 19) dX5_copies_19 ?_
      obtain ⟨q20, hp⟩ := hp
      refine x_iald (pc := 20) dX5_copies_20 (hAt_n n_fa_ga k_fa) q20 (j := ((i + v4).toNatClampNeg)) rfl ?_
      obtain ⟨q21, hp⟩ := hp
      refine x_iast (pc := 21) (e' := arI 412 (upd x_ga ((j + v4).toNatClampNeg) (ff ((i + v4).toNatClampNeg)))) dX5_copies_21 hAt_same q21 (j := ((j + v4).toNatClampNeg)) rfl rfl ?_
      refine Wp.eqh (h' := (hSet h ga (arI 412 (upd x_ga ((j + v4).toNatClampNeg) (ff ((i + v4).toNatClampNeg)))))) (hSet_set) ?_
      refine x_iinc (pc := 22) (v := (v4 + (1 : Int32))) (L' := [(4, .int (v4 + (1 : Int32))), (0, .ref fa), (1, .int i), (2, .ref ga), (3, .int j)]) dX5_copies_22 rfl rfl rfl rfl ?_
      refine x_goto (pc := 25) (tgt := 3) dX5_copies_25 (by decide) ?_
      subst er
      exact ih (v4 + (1 : Int32)) (upd x_ga ((j + v4).toNatClampNeg) (ff ((i + v4).toNatClampNeg))) hp kk
def f_X5_copiesB (ff gf : Nat → Int32) (i j : Int32) : (Nat → Int32) := (l_X5_copiesB_3 xK ff gf i j (0 : Int32) gf).2
def p_X5_copiesB (ff gf : Nat → Int32) (i j : Int32) : Prop := ((q_X5_copiesB_3 xK ff gf i j (0 : Int32) gf) ∧ True)
set_option maxRecDepth 100000 in
set_option maxHeartbeats 4000000 in
theorem C_X5_copiesB (G : xG) (h : xH) (fa ga : Nat) (ff gf : Nat → Int32) (i j : Int32) (k_fa : hAt h fa = some (arI 103 ff)) (k_ga : hAt h ga = some (arI 412 gf)) (n_fa_ga : fa ≠ ga) (hp : p_X5_copiesB ff gf i j) : Cd G 0 yX5_copies cX5_copies 5 none [.ref fa, .int i, .ref ga, .int j] h none (hSet h ga (arI 412 (f_X5_copiesB ff gf i j))) := by
  refine Ct.of (by decide) (by rfl) ?_
  refine Wp.eqs (L' := [(0, .ref fa), (1, .int i), (2, .ref ga), (3, .int j)]) (st' := []) rfl rfl ?_
  refine Wp.eqh (h' := (hSet h ga (arI 412 gf))) (by rw [hSet_self k_ga]) ?_
  obtain ⟨R, er⟩ : ∃ R, R = f_X5_copiesB ff gf i j := ⟨_, rfl⟩
  rw [← er]
  unfold f_X5_copiesB at er
  unfold p_X5_copiesB at hp
  refine x_iconst (pc := 0) (v := (0 : Int32)) dX5_copies_0 (by decide) ?_
  refine x_istore (pc := 1) (L' := [(4, .int (0 : Int32)), (0, .ref fa), (1, .int i), (2, .ref ga), (3, .int j)]) dX5_copies_1 rfl rfl ?_
  obtain ⟨ql3, hp⟩ := hp
  refine L_X5_copiesB_3 G h fa ga ff gf i j k_fa k_ga n_fa_ga xK (0 : Int32) gf ql3 ?_
  obtain ⟨F1, eF1⟩ : ∃ F, F = l_X5_copiesB_3 xK ff gf i j (0 : Int32) gf := ⟨_, rfl⟩
  rw [← eF1]
  try rw [← eF1] at er
  try rw [← eF1] at hp
  subst er
  exact x_vret (pc := 28) dX5_copies_28 rfl rfl rfl ⟨rfl, rfl⟩

def l_X5_copiesC_3 : Nat → (Nat → Int32) → (Nat → Int32) → Int32 → Int32 → Int32 → (Nat → Int32) → Int32 × (Nat → Int32)
  | 0, _, _, _, _, _, _ => (0, (fun _ => 0))
  | n + 1, ff, gf, i, j, v4, x_ga => (if (103 : Int32) ≤ v4 then (v4, x_ga) else (l_X5_copiesC_3 n ff gf i j (v4 + (1 : Int32)) (upd x_ga ((j + v4).toNatClampNeg) (ff ((i + v4).toNatClampNeg)))))
def q_X5_copiesC_3 : Nat → (Nat → Int32) → (Nat → Int32) → Int32 → Int32 → Int32 → (Nat → Int32) → Prop
  | 0, _, _, _, _, _, _ => False
  | n + 1, ff, gf, i, j, v4, x_ga => (((103 : Int32) ≤ v4 → True) ∧ (¬ ((103 : Int32) ≤ v4) → (vp_in (i + v4) 412 ∧ (vp_in (j + v4) 103 ∧ (q_X5_copiesC_3 n ff gf i j (v4 + (1 : Int32)) (upd x_ga ((j + v4).toNatClampNeg) (ff ((i + v4).toNatClampNeg))))))))
set_option maxRecDepth 100000 in
set_option maxHeartbeats 4000000 in
theorem L_X5_copiesC_3 (G : xG) (h : xH) (fa ga : Nat) (ff gf : Nat → Int32) (i j : Int32) (k_fa : hAt h fa = some (arI 412 ff)) (k_ga : hAt h ga = some (arI 103 gf)) (n_fa_ga : fa ≠ ga) {Z : xZ} : ∀ (n : Nat) (v4 : Int32) (x_ga : (Nat → Int32)), q_X5_copiesC_3 n ff gf i j v4 x_ga → Wp G yX5_copies.cls cX5_copies 5 yX5_copies.name none (xR 0 0 0) Z 0 0 28 [(4, .int (l_X5_copiesC_3 n ff gf i j v4 x_ga).1), (0, .ref fa), (1, .int i), (2, .ref ga), (3, .int j)] [] (hSet h ga (arI 103 (l_X5_copiesC_3 n ff gf i j v4 x_ga).2)) → Wp G yX5_copies.cls cX5_copies 5 yX5_copies.name none (xR 0 0 0) Z 0 0 3 [(4, .int v4), (0, .ref fa), (1, .int i), (2, .ref ga), (3, .int j)] [] (hSet h ga (arI 103 x_ga)) := by
  intro n
  induction n with
  | zero => intro v4 x_ga hp; exact absurd hp id
  | succ n ih =>
    intro v4 x_ga hp kk
    obtain ⟨R, er⟩ : ∃ R, R = l_X5_copiesC_3 (n + 1) ff gf i j v4 x_ga := ⟨_, rfl⟩
    rw [← er] at kk
    rw [l_X5_copiesC_3] at er
    rw [q_X5_copiesC_3] at hp
    refine x_iload (pc := 3) dX5_copies_3 rfl ?_
    refine x_bipush (pc := 5) (v := (103 : Int32)) dX5_copies_5 (by decide) ?_
    refine x_icmp_ge (pc := 7) (tgt := 28) dX5_copies_7 (by decide) (fun (c1 : (103 : Int32) ≤ v4) => ?_) (fun (c1 : ¬ ((103 : Int32) ≤ v4)) => ?_)
    · rw [if_pos c1] at er
      replace hp := hp.1 c1
      subst er
      exact kk
    · rw [if_neg c1] at er
      replace hp := hp.2 c1
      refine x_aload_n (pc := 10) dX5_copies_10 rfl ?_
      refine x_iload_n (pc := 11) dX5_copies_11 rfl ?_
      refine x_iload (pc := 12) dX5_copies_12 rfl ?_
      refine x_iadd (pc := 14) dX5_copies_14 ?_
      refine x_aload_n (pc := 15) dX5_copies_15 rfl ?_
      refine x_iload_n (pc := 16) dX5_copies_16 rfl ?_
      refine x_iload (pc := 17) dX5_copies_17 rfl ?_
      refine x_iadd (pc := 19) dX5_copies_19 ?_
      obtain ⟨q20, hp⟩ := hp
      refine x_iald (pc := 20) dX5_copies_20 (hAt_n n_fa_ga k_fa) q20 (j := ((i + v4).toNatClampNeg)) rfl ?_
      obtain ⟨q21, hp⟩ := hp
      refine x_iast (pc := 21) (e' := arI 103 (upd x_ga ((j + v4).toNatClampNeg) (ff ((i + v4).toNatClampNeg)))) dX5_copies_21 hAt_same q21 (j := ((j + v4).toNatClampNeg)) rfl rfl ?_
      refine Wp.eqh (h' := (hSet h ga (arI 103 (upd x_ga ((j + v4).toNatClampNeg) (ff ((i + v4).toNatClampNeg)))))) (hSet_set) ?_
      refine x_iinc (pc := 22) (v := (v4 + (1 : Int32))) (L' := [(4, .int (v4 + (1 : Int32))), (0, .ref fa), (1, .int i), (2, .ref ga), (3, .int j)]) dX5_copies_22 rfl rfl rfl rfl ?_
      refine x_goto (pc := 25) (tgt := 3) dX5_copies_25 (by decide) ?_
      subst er
      exact ih (v4 + (1 : Int32)) (upd x_ga ((j + v4).toNatClampNeg) (ff ((i + v4).toNatClampNeg))) hp kk
def f_X5_copiesC (ff gf : Nat → Int32) (i j : Int32) : (Nat → Int32) := (l_X5_copiesC_3 xK ff gf i j (0 : Int32) gf).2
def p_X5_copiesC (ff gf : Nat → Int32) (i j : Int32) : Prop := ((q_X5_copiesC_3 xK ff gf i j (0 : Int32) gf) ∧ True)
set_option maxRecDepth 100000 in
set_option maxHeartbeats 4000000 in
theorem C_X5_copiesC (G : xG) (h : xH) (fa ga : Nat) (ff gf : Nat → Int32) (i j : Int32) (k_fa : hAt h fa = some (arI 412 ff)) (k_ga : hAt h ga = some (arI 103 gf)) (n_fa_ga : fa ≠ ga) (hp : p_X5_copiesC ff gf i j) : Cd G 0 yX5_copies cX5_copies 5 none [.ref fa, .int i, .ref ga, .int j] h none (hSet h ga (arI 103 (f_X5_copiesC ff gf i j))) := by
  refine Ct.of (by decide) (by rfl) ?_
  refine Wp.eqs (L' := [(0, .ref fa), (1, .int i), (2, .ref ga), (3, .int j)]) (st' := []) rfl rfl ?_
  refine Wp.eqh (h' := (hSet h ga (arI 103 gf))) (by rw [hSet_self k_ga]) ?_
  obtain ⟨R, er⟩ : ∃ R, R = f_X5_copiesC ff gf i j := ⟨_, rfl⟩
  rw [← er]
  unfold f_X5_copiesC at er
  unfold p_X5_copiesC at hp
  refine x_iconst (pc := 0) (v := (0 : Int32)) dX5_copies_0 (by decide) ?_
  refine x_istore (pc := 1) (L' := [(4, .int (0 : Int32)), (0, .ref fa), (1, .int i), (2, .ref ga), (3, .int j)]) dX5_copies_1 rfl rfl ?_
  obtain ⟨ql3, hp⟩ := hp
  refine L_X5_copiesC_3 G h fa ga ff gf i j k_fa k_ga n_fa_ga xK (0 : Int32) gf ql3 ?_
  obtain ⟨F1, eF1⟩ : ∃ F, F = l_X5_copiesC_3 xK ff gf i j (0 : Int32) gf := ⟨_, rfl⟩
  rw [← eF1]
  try rw [← eF1] at er
  try rw [← eF1] at hp
  subst er
  exact x_vret (pc := 28) dX5_copies_28 rfl rfl rfl ⟨rfl, rfl⟩
end
section
def l_X5_begins_2 : Nat → (Nat → Int32) → (Nat → Int32) → Int32 → (Nat → Int32) → Int32 × (Nat → Int32)
  | 0, _, _, _, _ => (0, (fun _ => 0))
  | n + 1, m, tr, v1, x_rd => (if (103 : Int32) ≤ v1 then (v1, x_rd) else (l_X5_begins_2 n m tr (v1 + (1 : Int32)) (upd x_rd (v1.toNatClampNeg) (0 : Int32))))
def q_X5_begins_2 : Nat → (Nat → Int32) → (Nat → Int32) → Int32 → (Nat → Int32) → Prop
  | 0, _, _, _, _ => False
  | n + 1, m, tr, v1, x_rd => (((103 : Int32) ≤ v1 → True) ∧ (¬ ((103 : Int32) ≤ v1) → (vp_in v1 103 ∧ (q_X5_begins_2 n m tr (v1 + (1 : Int32)) (upd x_rd (v1.toNatClampNeg) (0 : Int32))))))
set_option maxRecDepth 100000 in
set_option maxHeartbeats 4000000 in
theorem L_X5_begins_2 (G : xG) (h : xH) (o nw rd sd pa xt : Nat) (m tr : Nat → Int32) (k_o : hAt h o = some (moC nw rd sd pa xt m)) (k_rd : hAt h rd = some (arI 103 tr)) {Z : xZ} : ∀ (n : Nat) (v1 : Int32) (x_rd : (Nat → Int32)), q_X5_begins_2 n m tr v1 x_rd → Wp G yX5_begins.cls cX5_begins 2 yX5_begins.name none (xR 0 0 0) Z 0 0 21 [(1, .int (l_X5_begins_2 n m tr v1 x_rd).1), (0, .ref o)] [] (hSet h rd (arI 103 (l_X5_begins_2 n m tr v1 x_rd).2)) → Wp G yX5_begins.cls cX5_begins 2 yX5_begins.name none (xR 0 0 0) Z 0 0 2 [(1, .int v1), (0, .ref o)] [] (hSet h rd (arI 103 x_rd)) := by
  have n_o_rd : o ≠ rd := hne_k k_o k_rd rfl
  intro n
  induction n with
  | zero => intro v1 x_rd hp; exact absurd hp id
  | succ n ih =>
    intro v1 x_rd hp kk
    obtain ⟨R, er⟩ : ∃ R, R = l_X5_begins_2 (n + 1) m tr v1 x_rd := ⟨_, rfl⟩
    rw [← er] at kk
    rw [l_X5_begins_2] at er
    rw [q_X5_begins_2] at hp
    refine x_iload_n (pc := 2) dX5_begins_2 rfl ?_
    refine x_bipush (pc := 3) (v := (103 : Int32)) dX5_begins_3 (by decide) ?_
    refine x_icmp_ge (pc := 5) (tgt := 21) dX5_begins_5 (by decide) (fun (c1 : (103 : Int32) ≤ v1) => ?_) (fun (c1 : ¬ ((103 : Int32) ≤ v1)) => ?_)
    · rw [if_pos c1] at er
      replace hp := hp.1 c1
      subst er
      exact kk
    · rw [if_neg c1] at er
      replace hp := hp.2 c1
      refine x_aload_n (pc := 8) dX5_begins_8 rfl ?_
      refine x_getf (pc := 9) (v := .ref rd) dX5_begins_9 xf_X5_13 (hAt_n n_o_rd k_o) rfl ?_
      refine x_iload_n (pc := 12) dX5_begins_12 rfl ?_
      refine x_iconst (pc := 13) (v := (0 : Int32)) dX5_begins_13 (by decide) ?_
      obtain ⟨q14, hp⟩ := hp
      refine x_iast (pc := 14) (e' := arI 103 (upd x_rd (v1.toNatClampNeg) (0 : Int32))) dX5_begins_14 hAt_same q14 (j := (v1.toNatClampNeg)) rfl rfl ?_
      refine Wp.eqh (h' := (hSet h rd (arI 103 (upd x_rd (v1.toNatClampNeg) (0 : Int32))))) (hSet_set) ?_
      refine x_iinc (pc := 15) (v := (v1 + (1 : Int32))) (L' := [(1, .int (v1 + (1 : Int32))), (0, .ref o)]) dX5_begins_15 rfl rfl rfl rfl ?_
      refine x_goto (pc := 18) (tgt := 2) dX5_begins_18 (by decide) ?_
      subst er
      exact ih (v1 + (1 : Int32)) (upd x_rd (v1.toNatClampNeg) (0 : Int32)) hp kk
def f_X5_begins (m tr : Nat → Int32) : (Nat → Int32) := (upd (upd (upd (upd (l_X5_begins_2 xK m tr (0 : Int32) tr).2 2 (60 : Int32)) 3 (900 : Int32)) 4 (20 : Int32)) 5 (1 : Int32))
def p_X5_begins (m tr : Nat → Int32) : Prop := ((q_X5_begins_2 xK m tr (0 : Int32) tr) ∧ True)
set_option maxRecDepth 100000 in
set_option maxHeartbeats 4000000 in
theorem C_X5_begins (G : xG) (h : xH) (o nw rd sd pa xt : Nat) (m tr : Nat → Int32) (k_o : hAt h o = some (moC nw rd sd pa xt m)) (k_rd : hAt h rd = some (arI 103 tr)) (hp : p_X5_begins m tr) : Cd G 0 yX5_begins cX5_begins 2 none [.ref o] h none (hSet h rd (arI 103 (f_X5_begins m tr))) := by
  have n_o_rd : o ≠ rd := hne_k k_o k_rd rfl
  refine Ct.of (by decide) (by rfl) ?_
  refine Wp.eqs (L' := [(0, .ref o)]) (st' := []) rfl rfl ?_
  refine Wp.eqh (h' := (hSet h rd (arI 103 tr))) (by rw [hSet_self k_rd]) ?_
  obtain ⟨R, er⟩ : ∃ R, R = f_X5_begins m tr := ⟨_, rfl⟩
  rw [← er]
  unfold f_X5_begins at er
  unfold p_X5_begins at hp
  refine x_iconst (pc := 0) (v := (0 : Int32)) dX5_begins_0 (by decide) ?_
  refine x_istore_n (pc := 1) (L' := [(1, .int (0 : Int32)), (0, .ref o)]) dX5_begins_1 rfl rfl ?_
  obtain ⟨ql2, hp⟩ := hp
  refine L_X5_begins_2 G h o nw rd sd pa xt m tr k_o k_rd  xK (0 : Int32) tr ql2 ?_
  obtain ⟨F1, eF1⟩ : ∃ F, F = l_X5_begins_2 xK m tr (0 : Int32) tr := ⟨_, rfl⟩
  rw [← eF1]
  try rw [← eF1] at er
  try rw [← eF1] at hp
  refine x_aload_n (pc := 21) dX5_begins_21 rfl ?_
  refine x_getf (pc := 22) (v := .ref rd) dX5_begins_22 xf_X5_13 (hAt_n n_o_rd k_o) rfl ?_
  refine x_iconst (pc := 25) (v := (2 : Int32)) dX5_begins_25 (by decide) ?_
  refine x_bipush (pc := 26) (v := (60 : Int32)) dX5_begins_26 (by decide) ?_
  refine x_iast (pc := 28) (e' := arI 103 (upd F1.2 2 (60 : Int32))) dX5_begins_28 hAt_same (vp_in_nI (n := 2) (by decide) (by decide)) (j := 2) (nI_clamp (n := 2) (by decide)) rfl ?_
  refine Wp.eqh (h' := (hSet h rd (arI 103 (upd F1.2 2 (60 : Int32))))) (hSet_set) ?_
  refine x_aload_n (pc := 29) dX5_begins_29 rfl ?_
  refine x_getf (pc := 30) (v := .ref rd) dX5_begins_30 xf_X5_13 (hAt_n n_o_rd k_o) rfl ?_
  refine x_iconst (pc := 33) (v := (3 : Int32)) dX5_begins_33 (by decide) ?_
  refine x_sipush (pc := 34) (v := (900 : Int32)) dX5_begins_34 (by decide) ?_
  refine x_iast (pc := 37) (e' := arI 103 (upd (upd F1.2 2 (60 : Int32)) 3 (900 : Int32))) dX5_begins_37 hAt_same (vp_in_nI (n := 3) (by decide) (by decide)) (j := 3) (nI_clamp (n := 3) (by decide)) rfl ?_
  refine Wp.eqh (h' := (hSet h rd (arI 103 (upd (upd F1.2 2 (60 : Int32)) 3 (900 : Int32))))) (hSet_set) ?_
  refine x_aload_n (pc := 38) dX5_begins_38 rfl ?_
  refine x_getf (pc := 39) (v := .ref rd) dX5_begins_39 xf_X5_13 (hAt_n n_o_rd k_o) rfl ?_
  refine x_iconst (pc := 42) (v := (4 : Int32)) dX5_begins_42 (by decide) ?_
  refine x_bipush (pc := 43) (v := (20 : Int32)) dX5_begins_43 (by decide) ?_
  refine x_iast (pc := 45) (e' := arI 103 (upd (upd (upd F1.2 2 (60 : Int32)) 3 (900 : Int32)) 4 (20 : Int32))) dX5_begins_45 hAt_same (vp_in_nI (n := 4) (by decide) (by decide)) (j := 4) (nI_clamp (n := 4) (by decide)) rfl ?_
  refine Wp.eqh (h' := (hSet h rd (arI 103 (upd (upd (upd F1.2 2 (60 : Int32)) 3 (900 : Int32)) 4 (20 : Int32))))) (hSet_set) ?_
  refine x_aload_n (pc := 46) dX5_begins_46 rfl ?_
  refine x_getf (pc := 47) (v := .ref rd) dX5_begins_47 xf_X5_13 (hAt_n n_o_rd k_o) rfl ?_
  refine x_iconst (pc := 50) (v := (5 : Int32)) dX5_begins_50 (by decide) ?_
  refine x_iconst (pc := 51) (v := (1 : Int32)) dX5_begins_51 (by decide) ?_
  refine x_iast (pc := 52) (e' := arI 103 (upd (upd (upd (upd F1.2 2 (60 : Int32)) 3 (900 : Int32)) 4 (20 : Int32)) 5 (1 : Int32))) dX5_begins_52 hAt_same (vp_in_nI (n := 5) (by decide) (by decide)) (j := 5) (nI_clamp (n := 5) (by decide)) rfl ?_
  refine Wp.eqh (h' := (hSet h rd (arI 103 (upd (upd (upd (upd F1.2 2 (60 : Int32)) 3 (900 : Int32)) 4 (20 : Int32)) 5 (1 : Int32))))) (hSet_set) ?_
  subst er
  exact x_vret (pc := 53) dX5_begins_53 rfl rfl rfl ⟨rfl, rfl⟩

def f_X5_addsWay (m tr : Nat → Int32) : Int32 × (Nat → Int32) := ((if (4 : Int32) ≤ (tr 0) then (0 : Int32) else (1 : Int32)), (upd tr 0 ((tr 0) + (if (if (4 : Int32) ≤ (tr 0) then (0 : Int32) else (1 : Int32)) = 0 then (0 : Int32) else (1 : Int32)))))
set_option maxRecDepth 100000 in
set_option maxHeartbeats 4000000 in
theorem C_X5_addsWay (G : xG) (h : xH) (o nw rd sd pa xt : Nat) (m tr : Nat → Int32) (k_o : hAt h o = some (moC nw rd sd pa xt m)) (k_rd : hAt h rd = some (arI 103 tr)) : Cd G 0 yX5_addsWay cX5_addsWay 2 (some .boolean) [.ref o] h (some (.int (f_X5_addsWay m tr).1)) (hSet h rd (arI 103 (f_X5_addsWay m tr).2)) := by
  have n_o_rd : o ≠ rd := hne_k k_o k_rd rfl
  refine Ct.of (by decide) (by rfl) ?_
  refine Wp.eqs (L' := [(0, .ref o)]) (st' := []) rfl rfl ?_
  refine Wp.eqh (h' := (hSet h rd (arI 103 tr))) (by rw [hSet_self k_rd]) ?_
  obtain ⟨R, er⟩ : ∃ R, R = f_X5_addsWay m tr := ⟨_, rfl⟩
  rw [← er]
  unfold f_X5_addsWay at er
  refine x_aload_n (pc := 0) dX5_addsWay_0 rfl ?_
  refine x_getf (pc := 1) (v := .ref rd) dX5_addsWay_1 xf_X5_13 (hAt_n n_o_rd k_o) rfl ?_
  refine x_iconst (pc := 4) (v := (0 : Int32)) dX5_addsWay_4 (by decide) ?_
  refine x_iald (pc := 5) dX5_addsWay_5 hAt_same (vp_in_nI (n := 0) (by decide) (by decide)) (j := 0) (nI_clamp (n := 0) (by decide)) ?_
  refine x_iconst (pc := 6) (v := (4 : Int32)) dX5_addsWay_6 (by decide) ?_
  refine x_mrg (pc' := 15) (L' := [(0, .ref o)]) (st' := [.int (if (4 : Int32) ≤ (tr 0) then (0 : Int32) else (1 : Int32))]) (h' := (hSet h rd (arI 103 tr))) (fun J => ?_) ?_
  · refine x_icmp_ge (pc := 7) (tgt := 14) dX5_addsWay_7 (by decide) (fun (c1 : (4 : Int32) ≤ (tr 0)) => ?_) (fun (c1 : ¬ ((4 : Int32) ≤ (tr 0))) => ?_)
    · refine x_iconst (pc := 14) (v := (0 : Int32)) dX5_addsWay_14 (by decide) ?_
      rw [if_pos c1] at J
      exact J
    · refine x_iconst (pc := 10) (v := (1 : Int32)) dX5_addsWay_10 (by decide) ?_
      refine x_goto (pc := 11) (tgt := 15) dX5_addsWay_11 (by decide) ?_
      rw [if_neg c1] at J
      exact J
  refine x_istore_n (pc := 15) (L' := [(1, .int (if (4 : Int32) ≤ (tr 0) then (0 : Int32) else (1 : Int32))), (0, .ref o)]) dX5_addsWay_15 rfl rfl ?_
  refine x_aload_n (pc := 16) dX5_addsWay_16 rfl ?_
  refine x_getf (pc := 17) (v := .ref rd) dX5_addsWay_17 xf_X5_13 (hAt_n n_o_rd k_o) rfl ?_
  refine x_iconst (pc := 20) (v := (0 : Int32)) dX5_addsWay_20 (by decide) ?_
  refine x_dup2 (pc := 21) dX5_addsWay_21 rfl rfl ?_
  refine x_iald (pc := 22) dX5_addsWay_22 hAt_same (vp_in_nI (n := 0) (by decide) (by decide)) (j := 0) (nI_clamp (n := 0) (by decide)) ?_
  refine x_iload_n (pc := 23) dX5_addsWay_23 rfl ?_
  refine x_mrg (pc' := 32) (L' := [(1, .int (if (4 : Int32) ≤ (tr 0) then (0 : Int32) else (1 : Int32))), (0, .ref o)]) (st' := [.int (if (if (4 : Int32) ≤ (tr 0) then (0 : Int32) else (1 : Int32)) = 0 then (0 : Int32) else (1 : Int32)), .int (tr 0), .int (0 : Int32), .ref rd]) (h' := (hSet h rd (arI 103 tr))) (fun J => ?_) ?_
  · refine x_if_eq (pc := 24) (tgt := 31) dX5_addsWay_24 (by decide) (fun (c2 : (if (4 : Int32) ≤ (tr 0) then (0 : Int32) else (1 : Int32)) = 0) => ?_) (fun (c2 : ¬ ((if (4 : Int32) ≤ (tr 0) then (0 : Int32) else (1 : Int32)) = 0)) => ?_)
    · refine x_iconst (pc := 31) (v := (0 : Int32)) dX5_addsWay_31 (by decide) ?_
      rw [if_pos c2] at J
      exact J
    · refine x_iconst (pc := 27) (v := (1 : Int32)) dX5_addsWay_27 (by decide) ?_
      refine x_goto (pc := 28) (tgt := 32) dX5_addsWay_28 (by decide) ?_
      rw [if_neg c2] at J
      exact J
  refine x_iadd (pc := 32) dX5_addsWay_32 ?_
  refine x_iast (pc := 33) (e' := arI 103 (upd tr 0 ((tr 0) + (if (if (4 : Int32) ≤ (tr 0) then (0 : Int32) else (1 : Int32)) = 0 then (0 : Int32) else (1 : Int32))))) dX5_addsWay_33 hAt_same (vp_in_nI (n := 0) (by decide) (by decide)) (j := 0) (nI_clamp (n := 0) (by decide)) rfl ?_
  refine Wp.eqh (h' := (hSet h rd (arI 103 (upd tr 0 ((tr 0) + (if (if (4 : Int32) ≤ (tr 0) then (0 : Int32) else (1 : Int32)) = 0 then (0 : Int32) else (1 : Int32))))))) (hSet_set) ?_
  refine x_iload_n (pc := 34) dX5_addsWay_34 rfl ?_
  subst er
  exact x_iret (pc := 35) dX5_addsWay_35 rfl (xb_nar (xB_ite xB0 xB1)) rfl rfl ⟨rfl, rfl⟩
theorem B_X5_addsWay (m tr : Nat → Int32) : xB (f_X5_addsWay m tr).1 := by
  unfold f_X5_addsWay
  exact (xB_fst (xB_ite xB0 xB1))

def f_X5_addsHop (m tr : Nat → Int32) (limit kind : Int32) : Int32 × (Nat → Int32) := (if ((tr 0) - (1 : Int32)) < 0 then ((0 : Int32), tr) else (if (tr ((f_X5_at ((tr 0) - (1 : Int32)) (11 : Int32)).toNatClampNeg)) = (6 : Int32) then ((0 : Int32), tr) else ((1 : Int32), (upd (upd (upd tr ((f_X5_at ((tr 0) - (1 : Int32)) ((12 : Int32) + (tr ((f_X5_at ((tr 0) - (1 : Int32)) (11 : Int32)).toNatClampNeg)))).toNatClampNeg) limit) ((f_X5_at ((tr 0) - (1 : Int32)) ((18 : Int32) + (tr ((f_X5_at ((tr 0) - (1 : Int32)) (11 : Int32)).toNatClampNeg)))).toNatClampNeg) kind) ((f_X5_at ((tr 0) - (1 : Int32)) (11 : Int32)).toNatClampNeg) (((upd (upd tr ((f_X5_at ((tr 0) - (1 : Int32)) ((12 : Int32) + (tr ((f_X5_at ((tr 0) - (1 : Int32)) (11 : Int32)).toNatClampNeg)))).toNatClampNeg) limit) ((f_X5_at ((tr 0) - (1 : Int32)) ((18 : Int32) + (tr ((f_X5_at ((tr 0) - (1 : Int32)) (11 : Int32)).toNatClampNeg)))).toNatClampNeg) kind) ((f_X5_at ((tr 0) - (1 : Int32)) (11 : Int32)).toNatClampNeg)) + (1 : Int32))))))
def p_X5_addsHop (m tr : Nat → Int32) (limit kind : Int32) : Prop := ((((tr 0) - (1 : Int32)) < 0 → True) ∧ (¬ (((tr 0) - (1 : Int32)) < 0) → (vp_in (f_X5_at ((tr 0) - (1 : Int32)) (11 : Int32)) 103 ∧ (((tr ((f_X5_at ((tr 0) - (1 : Int32)) (11 : Int32)).toNatClampNeg)) = (6 : Int32) → True) ∧ (¬ ((tr ((f_X5_at ((tr 0) - (1 : Int32)) (11 : Int32)).toNatClampNeg)) = (6 : Int32)) → (vp_in (f_X5_at ((tr 0) - (1 : Int32)) (11 : Int32)) 103 ∧ (vp_in (f_X5_at ((tr 0) - (1 : Int32)) ((12 : Int32) + (tr ((f_X5_at ((tr 0) - (1 : Int32)) (11 : Int32)).toNatClampNeg)))) 103 ∧ (vp_in (f_X5_at ((tr 0) - (1 : Int32)) ((18 : Int32) + (tr ((f_X5_at ((tr 0) - (1 : Int32)) (11 : Int32)).toNatClampNeg)))) 103 ∧ (vp_in (f_X5_at ((tr 0) - (1 : Int32)) (11 : Int32)) 103 ∧ (vp_in (f_X5_at ((tr 0) - (1 : Int32)) (11 : Int32)) 103 ∧ True))))))))))
set_option maxRecDepth 100000 in
set_option maxHeartbeats 4000000 in
theorem C_X5_addsHop (G : xG) (h : xH) (o nw rd sd pa xt : Nat) (m tr : Nat → Int32) (limit kind : Int32) (k_o : hAt h o = some (moC nw rd sd pa xt m)) (k_rd : hAt h rd = some (arI 103 tr)) (hp : p_X5_addsHop m tr limit kind) : Cd G 1 yX5_addsHop cX5_addsHop 5 (some .boolean) [.ref o, .int limit, .int kind] h (some (.int (f_X5_addsHop m tr limit kind).1)) (hSet h rd (arI 103 (f_X5_addsHop m tr limit kind).2)) := by
  have n_o_rd : o ≠ rd := hne_k k_o k_rd rfl
  refine Ct.of (by decide) (by rfl) ?_
  refine Wp.eqs (L' := [(0, .ref o), (1, .int limit), (2, .int kind)]) (st' := []) rfl rfl ?_
  refine Wp.eqh (h' := (hSet h rd (arI 103 tr))) (by rw [hSet_self k_rd]) ?_
  obtain ⟨R, er⟩ : ∃ R, R = f_X5_addsHop m tr limit kind := ⟨_, rfl⟩
  rw [← er]
  unfold f_X5_addsHop at er
  unfold p_X5_addsHop at hp
  refine x_aload_n (pc := 0) dX5_addsHop_0 rfl ?_
  refine x_getf (pc := 1) (v := .ref rd) dX5_addsHop_1 xf_X5_13 (hAt_n n_o_rd k_o) rfl ?_
  refine x_iconst (pc := 4) (v := (0 : Int32)) dX5_addsHop_4 (by decide) ?_
  refine x_iald (pc := 5) dX5_addsHop_5 hAt_same (vp_in_nI (n := 0) (by decide) (by decide)) (j := 0) (nI_clamp (n := 0) (by decide)) ?_
  refine x_iconst (pc := 6) (v := (1 : Int32)) dX5_addsHop_6 (by decide) ?_
  refine x_isub (pc := 7) dX5_addsHop_7 ?_
  refine x_istore_n (pc := 8) (L' := [(3, .int ((tr 0) - (1 : Int32))), (0, .ref o), (1, .int limit), (2, .int kind)]) dX5_addsHop_8 rfl rfl ?_
  refine x_iload_n (pc := 9) dX5_addsHop_9 rfl ?_
  refine x_if_lt (pc := 10) (tgt := 29) dX5_addsHop_10 (by decide) (fun (c1 : ((tr 0) - (1 : Int32)) < 0) => ?_) (fun (c1 : ¬ (((tr 0) - (1 : Int32)) < 0)) => ?_)
  · rw [if_pos c1] at er
    replace hp := hp.1 c1
    refine x_iconst (pc := 29) (v := (0 : Int32)) dX5_addsHop_29 (by decide) ?_
    subst er
    exact x_iret (pc := 30) dX5_addsHop_30 rfl rfl rfl rfl ⟨rfl, rfl⟩
  · rw [if_neg c1] at er
    replace hp := hp.2 c1
    refine x_aload_n (pc := 13) dX5_addsHop_13 rfl ?_
    refine x_getf (pc := 14) (v := .ref rd) dX5_addsHop_14 xf_X5_13 (hAt_n n_o_rd k_o) rfl ?_
    refine x_iload_n (pc := 17) dX5_addsHop_17 rfl ?_
    refine x_bipush (pc := 18) (v := (11 : Int32)) dX5_addsHop_18 (by decide) ?_
    refine x_cS2i (pc := 20) dX5_addsHop_20 xl_X5_36 xs_X5_at (C_X5_at G _ ((tr 0) - (1 : Int32)) (11 : Int32)) rfl rfl rfl ?_
    obtain ⟨F1, eF1⟩ : ∃ F, F = f_X5_at ((tr 0) - (1 : Int32)) (11 : Int32) := ⟨_, rfl⟩
    rw [← eF1]
    try rw [← eF1] at er
    try rw [← eF1] at hp
    obtain ⟨q23, hp⟩ := hp
    refine x_iald (pc := 23) dX5_addsHop_23 hAt_same q23 (j := (F1.toNatClampNeg)) rfl ?_
    refine x_bipush (pc := 24) (v := (6 : Int32)) dX5_addsHop_24 (by decide) ?_
    refine x_icmp_ne (pc := 26) (tgt := 31) dX5_addsHop_26 (by decide) (fun (c2 : ¬ ((tr (F1.toNatClampNeg)) = (6 : Int32))) => ?_) (fun (c2 : (tr (F1.toNatClampNeg)) = (6 : Int32)) => ?_)
    · rw [if_neg c2] at er
      replace hp := hp.2 c2
      refine x_aload_n (pc := 31) dX5_addsHop_31 rfl ?_
      refine x_getf (pc := 32) (v := .ref rd) dX5_addsHop_32 xf_X5_13 (hAt_n n_o_rd k_o) rfl ?_
      refine x_iload_n (pc := 35) dX5_addsHop_35 rfl ?_
      refine x_bipush (pc := 36) (v := (11 : Int32)) dX5_addsHop_36 (by decide) ?_
      refine x_cS2i (pc := 38) dX5_addsHop_38 xl_X5_36 xs_X5_at (C_X5_at G _ ((tr 0) - (1 : Int32)) (11 : Int32)) rfl rfl rfl ?_
      rw [← eF1]
      obtain ⟨q41, hp⟩ := hp
      refine x_iald (pc := 41) dX5_addsHop_41 hAt_same q41 (j := (F1.toNatClampNeg)) rfl ?_
      refine x_istore (pc := 42) (L' := [(4, .int (tr (F1.toNatClampNeg))), (3, .int ((tr 0) - (1 : Int32))), (0, .ref o), (1, .int limit), (2, .int kind)]) dX5_addsHop_42 rfl rfl ?_
      refine x_aload_n (pc := 44) dX5_addsHop_44 rfl ?_
      refine x_getf (pc := 45) (v := .ref rd) dX5_addsHop_45 xf_X5_13 (hAt_n n_o_rd k_o) rfl ?_
      refine x_iload_n (pc := 48) dX5_addsHop_48 rfl ?_
      refine x_bipush (pc := 49) (v := (12 : Int32)) dX5_addsHop_49 (by decide) ?_
      refine x_iload (pc := 51) dX5_addsHop_51 rfl ?_
      refine x_iadd (pc := 53) dX5_addsHop_53 ?_
      refine x_cS2i (pc := 54) dX5_addsHop_54 xl_X5_36 xs_X5_at (C_X5_at G _ ((tr 0) - (1 : Int32)) ((12 : Int32) + (tr (F1.toNatClampNeg)))) rfl rfl rfl ?_
      obtain ⟨F2, eF2⟩ : ∃ F, F = f_X5_at ((tr 0) - (1 : Int32)) ((12 : Int32) + (tr (F1.toNatClampNeg))) := ⟨_, rfl⟩
      rw [← eF2]
      try rw [← eF2] at er
      try rw [← eF2] at hp
      refine x_iload_n (pc := 57) dX5_addsHop_57 rfl ?_
      obtain ⟨q58, hp⟩ := hp
      refine x_iast (pc := 58) (e' := arI 103 (upd tr (F2.toNatClampNeg) limit)) dX5_addsHop_58 hAt_same q58 (j := (F2.toNatClampNeg)) rfl rfl ?_
      refine Wp.eqh (h' := (hSet h rd (arI 103 (upd tr (F2.toNatClampNeg) limit)))) (hSet_set) ?_
      refine x_aload_n (pc := 59) dX5_addsHop_59 rfl ?_
      refine x_getf (pc := 60) (v := .ref rd) dX5_addsHop_60 xf_X5_13 (hAt_n n_o_rd k_o) rfl ?_
      refine x_iload_n (pc := 63) dX5_addsHop_63 rfl ?_
      refine x_bipush (pc := 64) (v := (18 : Int32)) dX5_addsHop_64 (by decide) ?_
      refine x_iload (pc := 66) dX5_addsHop_66 rfl ?_
      refine x_iadd (pc := 68) dX5_addsHop_68 ?_
      refine x_cS2i (pc := 69) dX5_addsHop_69 xl_X5_36 xs_X5_at (C_X5_at G _ ((tr 0) - (1 : Int32)) ((18 : Int32) + (tr (F1.toNatClampNeg)))) rfl rfl rfl ?_
      obtain ⟨F3, eF3⟩ : ∃ F, F = f_X5_at ((tr 0) - (1 : Int32)) ((18 : Int32) + (tr (F1.toNatClampNeg))) := ⟨_, rfl⟩
      rw [← eF3]
      try rw [← eF3] at er
      try rw [← eF3] at hp
      refine x_iload_n (pc := 72) dX5_addsHop_72 rfl ?_
      obtain ⟨q73, hp⟩ := hp
      refine x_iast (pc := 73) (e' := arI 103 (upd (upd tr (F2.toNatClampNeg) limit) (F3.toNatClampNeg) kind)) dX5_addsHop_73 hAt_same q73 (j := (F3.toNatClampNeg)) rfl rfl ?_
      refine Wp.eqh (h' := (hSet h rd (arI 103 (upd (upd tr (F2.toNatClampNeg) limit) (F3.toNatClampNeg) kind)))) (hSet_set) ?_
      refine x_aload_n (pc := 74) dX5_addsHop_74 rfl ?_
      refine x_getf (pc := 75) (v := .ref rd) dX5_addsHop_75 xf_X5_13 (hAt_n n_o_rd k_o) rfl ?_
      refine x_iload_n (pc := 78) dX5_addsHop_78 rfl ?_
      refine x_bipush (pc := 79) (v := (11 : Int32)) dX5_addsHop_79 (by decide) ?_
      refine x_cS2i (pc := 81) dX5_addsHop_81 xl_X5_36 xs_X5_at (C_X5_at G _ ((tr 0) - (1 : Int32)) (11 : Int32)) rfl rfl rfl ?_
      rw [← eF1]
      refine x_dup2 (pc := 84) dX5_addsHop_84 rfl rfl ?_
      obtain ⟨q85, hp⟩ := hp
      refine x_iald (pc := 85) dX5_addsHop_85 hAt_same q85 (j := (F1.toNatClampNeg)) rfl ?_
      refine x_iconst (pc := 86) (v := (1 : Int32)) dX5_addsHop_86 (by decide) ?_
      refine x_iadd (pc := 87) dX5_addsHop_87 ?_
      obtain ⟨q88, hp⟩ := hp
      refine x_iast (pc := 88) (e' := arI 103 (upd (upd (upd tr (F2.toNatClampNeg) limit) (F3.toNatClampNeg) kind) (F1.toNatClampNeg) (((upd (upd tr (F2.toNatClampNeg) limit) (F3.toNatClampNeg) kind) (F1.toNatClampNeg)) + (1 : Int32)))) dX5_addsHop_88 hAt_same q88 (j := (F1.toNatClampNeg)) rfl rfl ?_
      refine Wp.eqh (h' := (hSet h rd (arI 103 (upd (upd (upd tr (F2.toNatClampNeg) limit) (F3.toNatClampNeg) kind) (F1.toNatClampNeg) (((upd (upd tr (F2.toNatClampNeg) limit) (F3.toNatClampNeg) kind) (F1.toNatClampNeg)) + (1 : Int32)))))) (hSet_set) ?_
      refine x_iconst (pc := 89) (v := (1 : Int32)) dX5_addsHop_89 (by decide) ?_
      subst er
      exact x_iret (pc := 90) dX5_addsHop_90 rfl rfl rfl rfl ⟨rfl, rfl⟩
    · rw [if_pos c2] at er
      replace hp := hp.1 c2
      refine x_iconst (pc := 29) (v := (0 : Int32)) dX5_addsHop_29 (by decide) ?_
      subst er
      exact x_iret (pc := 30) dX5_addsHop_30 rfl rfl rfl rfl ⟨rfl, rfl⟩
theorem B_X5_addsHop (m tr : Nat → Int32) (limit kind : Int32) : xB (f_X5_addsHop m tr limit kind).1 := by
  unfold f_X5_addsHop
  exact (xB_ite1 (xB_fst xB0) (xB_ite1 (xB_fst xB0) (xB_fst xB1)))

def l_X5_takes_2 : Nat → (Nat → Int32) → (Nat → Int32) → (Nat → Int32) → Int32 → (Nat → Int32) → Int32 × (Nat → Int32)
  | 0, _, _, _, _, _ => (0, (fun _ => 0))
  | n + 1, m, tn, tr, v1, x_rd => (if (x_rd 0) ≤ v1 then (v1, x_rd) else (l_X5_takes_2 n m tn tr (v1 + (1 : Int32)) (upd (upd (upd x_rd ((f_X5_at v1 (0 : Int32)).toNatClampNeg) (x_rd 2)) ((f_X5_at v1 (1 : Int32)).toNatClampNeg) ((upd x_rd ((f_X5_at v1 (0 : Int32)).toNatClampNeg) (x_rd 2)) 3)) ((f_X5_at v1 (2 : Int32)).toNatClampNeg) (if ((upd (upd x_rd ((f_X5_at v1 (0 : Int32)).toNatClampNeg) (x_rd 2)) ((f_X5_at v1 (1 : Int32)).toNatClampNeg) ((upd x_rd ((f_X5_at v1 (0 : Int32)).toNatClampNeg) (x_rd 2)) 3)) 2) = ((upd (upd x_rd ((f_X5_at v1 (0 : Int32)).toNatClampNeg) (x_rd 2)) ((f_X5_at v1 (1 : Int32)).toNatClampNeg) ((upd x_rd ((f_X5_at v1 (0 : Int32)).toNatClampNeg) (x_rd 2)) 3)) 3) then (1 : Int32) else (0 : Int32)))))
def q_X5_takes_2 : Nat → (Nat → Int32) → (Nat → Int32) → (Nat → Int32) → Int32 → (Nat → Int32) → Prop
  | 0, _, _, _, _, _ => False
  | n + 1, m, tn, tr, v1, x_rd => (((x_rd 0) ≤ v1 → True) ∧ (¬ ((x_rd 0) ≤ v1) → (vp_in (f_X5_at v1 (0 : Int32)) 103 ∧ (vp_in (f_X5_at v1 (1 : Int32)) 103 ∧ (vp_in (f_X5_at v1 (2 : Int32)) 103 ∧ (q_X5_takes_2 n m tn tr (v1 + (1 : Int32)) (upd (upd (upd x_rd ((f_X5_at v1 (0 : Int32)).toNatClampNeg) (x_rd 2)) ((f_X5_at v1 (1 : Int32)).toNatClampNeg) ((upd x_rd ((f_X5_at v1 (0 : Int32)).toNatClampNeg) (x_rd 2)) 3)) ((f_X5_at v1 (2 : Int32)).toNatClampNeg) (if ((upd (upd x_rd ((f_X5_at v1 (0 : Int32)).toNatClampNeg) (x_rd 2)) ((f_X5_at v1 (1 : Int32)).toNatClampNeg) ((upd x_rd ((f_X5_at v1 (0 : Int32)).toNatClampNeg) (x_rd 2)) 3)) 2) = ((upd (upd x_rd ((f_X5_at v1 (0 : Int32)).toNatClampNeg) (x_rd 2)) ((f_X5_at v1 (1 : Int32)).toNatClampNeg) ((upd x_rd ((f_X5_at v1 (0 : Int32)).toNatClampNeg) (x_rd 2)) 3)) 3) then (1 : Int32) else (0 : Int32)))))))))
set_option maxRecDepth 100000 in
set_option maxHeartbeats 4000000 in
theorem L_X5_takes_2 (G : xG) (h : xH) (o nw rd sd pa xt : Nat) (m tn tr : Nat → Int32) (k_o : hAt h o = some (moC nw rd sd pa xt m)) (k_nw : hAt h nw = some (arI 103 tn)) (k_rd : hAt h rd = some (arI 103 tr)) (n_nw_rd : nw ≠ rd) {Z : xZ} : ∀ (n : Nat) (v1 : Int32) (x_rd : (Nat → Int32)), q_X5_takes_2 n m tn tr v1 x_rd → Wp G yX5_takes.cls cX5_takes 2 yX5_takes.name none (xR 1 0 0) Z 0 0 80 [(1, .int (l_X5_takes_2 n m tn tr v1 x_rd).1), (0, .ref o)] [] (hSet (hSet (hSet h o (moC nw rd sd pa xt m)) nw (arI 103 tn)) rd (arI 103 (l_X5_takes_2 n m tn tr v1 x_rd).2)) → Wp G yX5_takes.cls cX5_takes 2 yX5_takes.name none (xR 1 0 0) Z 0 0 2 [(1, .int v1), (0, .ref o)] [] (hSet (hSet (hSet h o (moC nw rd sd pa xt m)) nw (arI 103 tn)) rd (arI 103 x_rd)) := by
  have n_o_nw : o ≠ nw := hne_k k_o k_nw rfl
  have n_o_rd : o ≠ rd := hne_k k_o k_rd rfl
  have n_rd_nw : rd ≠ nw := Ne.symm n_nw_rd
  intro n
  induction n with
  | zero => intro v1 x_rd hp; exact absurd hp id
  | succ n ih =>
    intro v1 x_rd hp kk
    obtain ⟨R, er⟩ : ∃ R, R = l_X5_takes_2 (n + 1) m tn tr v1 x_rd := ⟨_, rfl⟩
    rw [← er] at kk
    rw [l_X5_takes_2] at er
    rw [q_X5_takes_2] at hp
    refine x_iload_n (pc := 2) dX5_takes_2 rfl ?_
    refine x_aload_n (pc := 3) dX5_takes_3 rfl ?_
    refine x_getf (pc := 4) (v := .ref rd) dX5_takes_4 xf_X5_13 (hAt_n n_o_rd (hAt_n n_o_nw hAt_same)) rfl ?_
    refine x_iconst (pc := 7) (v := (0 : Int32)) dX5_takes_7 (by decide) ?_
    refine x_iald (pc := 8) dX5_takes_8 hAt_same (vp_in_nI (n := 0) (by decide) (by decide)) (j := 0) (nI_clamp (n := 0) (by decide)) ?_
    refine x_icmp_ge (pc := 9) (tgt := 80) dX5_takes_9 (by decide) (fun (c1 : (x_rd 0) ≤ v1) => ?_) (fun (c1 : ¬ ((x_rd 0) ≤ v1)) => ?_)
    · rw [if_pos c1] at er
      replace hp := hp.1 c1
      subst er
      exact kk
    · rw [if_neg c1] at er
      replace hp := hp.2 c1
      refine x_aload_n (pc := 12) dX5_takes_12 rfl ?_
      refine x_getf (pc := 13) (v := .ref rd) dX5_takes_13 xf_X5_13 (hAt_n n_o_rd (hAt_n n_o_nw hAt_same)) rfl ?_
      refine x_iload_n (pc := 16) dX5_takes_16 rfl ?_
      refine x_iconst (pc := 17) (v := (0 : Int32)) dX5_takes_17 (by decide) ?_
      refine x_cS2i (pc := 18) dX5_takes_18 xl_X5_36 xs_X5_at (C_X5_at G _ v1 (0 : Int32)) rfl rfl rfl ?_
      obtain ⟨F4, eF4⟩ : ∃ F, F = f_X5_at v1 (0 : Int32) := ⟨_, rfl⟩
      rw [← eF4]
      try rw [← eF4] at er
      try rw [← eF4] at hp
      refine x_aload_n (pc := 21) dX5_takes_21 rfl ?_
      refine x_getf (pc := 22) (v := .ref rd) dX5_takes_22 xf_X5_13 (hAt_n n_o_rd (hAt_n n_o_nw hAt_same)) rfl ?_
      refine x_iconst (pc := 25) (v := (2 : Int32)) dX5_takes_25 (by decide) ?_
      refine x_iald (pc := 26) dX5_takes_26 hAt_same (vp_in_nI (n := 2) (by decide) (by decide)) (j := 2) (nI_clamp (n := 2) (by decide)) ?_
      obtain ⟨q27, hp⟩ := hp
      refine x_iast (pc := 27) (e' := arI 103 (upd x_rd (F4.toNatClampNeg) (x_rd 2))) dX5_takes_27 hAt_same q27 (j := (F4.toNatClampNeg)) rfl rfl ?_
      refine Wp.eqh (h' := (hSet (hSet (hSet h o (moC nw rd sd pa xt m)) nw (arI 103 tn)) rd (arI 103 (upd x_rd (F4.toNatClampNeg) (x_rd 2))))) (hSet_set) ?_
      refine x_aload_n (pc := 28) dX5_takes_28 rfl ?_
      refine x_getf (pc := 29) (v := .ref rd) dX5_takes_29 xf_X5_13 (hAt_n n_o_rd (hAt_n n_o_nw hAt_same)) rfl ?_
      refine x_iload_n (pc := 32) dX5_takes_32 rfl ?_
      refine x_iconst (pc := 33) (v := (1 : Int32)) dX5_takes_33 (by decide) ?_
      refine x_cS2i (pc := 34) dX5_takes_34 xl_X5_36 xs_X5_at (C_X5_at G _ v1 (1 : Int32)) rfl rfl rfl ?_
      obtain ⟨F5, eF5⟩ : ∃ F, F = f_X5_at v1 (1 : Int32) := ⟨_, rfl⟩
      rw [← eF5]
      try rw [← eF5] at er
      try rw [← eF5] at hp
      refine x_aload_n (pc := 37) dX5_takes_37 rfl ?_
      refine x_getf (pc := 38) (v := .ref rd) dX5_takes_38 xf_X5_13 (hAt_n n_o_rd (hAt_n n_o_nw hAt_same)) rfl ?_
      refine x_iconst (pc := 41) (v := (3 : Int32)) dX5_takes_41 (by decide) ?_
      refine x_iald (pc := 42) dX5_takes_42 hAt_same (vp_in_nI (n := 3) (by decide) (by decide)) (j := 3) (nI_clamp (n := 3) (by decide)) ?_
      obtain ⟨q43, hp⟩ := hp
      refine x_iast (pc := 43) (e' := arI 103 (upd (upd x_rd (F4.toNatClampNeg) (x_rd 2)) (F5.toNatClampNeg) ((upd x_rd (F4.toNatClampNeg) (x_rd 2)) 3))) dX5_takes_43 hAt_same q43 (j := (F5.toNatClampNeg)) rfl rfl ?_
      refine Wp.eqh (h' := (hSet (hSet (hSet h o (moC nw rd sd pa xt m)) nw (arI 103 tn)) rd (arI 103 (upd (upd x_rd (F4.toNatClampNeg) (x_rd 2)) (F5.toNatClampNeg) ((upd x_rd (F4.toNatClampNeg) (x_rd 2)) 3))))) (hSet_set) ?_
      refine x_aload_n (pc := 44) dX5_takes_44 rfl ?_
      refine x_getf (pc := 45) (v := .ref rd) dX5_takes_45 xf_X5_13 (hAt_n n_o_rd (hAt_n n_o_nw hAt_same)) rfl ?_
      refine x_iload_n (pc := 48) dX5_takes_48 rfl ?_
      refine x_iconst (pc := 49) (v := (2 : Int32)) dX5_takes_49 (by decide) ?_
      refine x_cS2i (pc := 50) dX5_takes_50 xl_X5_36 xs_X5_at (C_X5_at G _ v1 (2 : Int32)) rfl rfl rfl ?_
      obtain ⟨F6, eF6⟩ : ∃ F, F = f_X5_at v1 (2 : Int32) := ⟨_, rfl⟩
      rw [← eF6]
      try rw [← eF6] at er
      try rw [← eF6] at hp
      refine x_aload_n (pc := 53) dX5_takes_53 rfl ?_
      refine x_getf (pc := 54) (v := .ref rd) dX5_takes_54 xf_X5_13 (hAt_n n_o_rd (hAt_n n_o_nw hAt_same)) rfl ?_
      refine x_iconst (pc := 57) (v := (2 : Int32)) dX5_takes_57 (by decide) ?_
      refine x_iald (pc := 58) dX5_takes_58 hAt_same (vp_in_nI (n := 2) (by decide) (by decide)) (j := 2) (nI_clamp (n := 2) (by decide)) ?_
      refine x_aload_n (pc := 59) dX5_takes_59 rfl ?_
      refine x_getf (pc := 60) (v := .ref rd) dX5_takes_60 xf_X5_13 (hAt_n n_o_rd (hAt_n n_o_nw hAt_same)) rfl ?_
      refine x_iconst (pc := 63) (v := (3 : Int32)) dX5_takes_63 (by decide) ?_
      refine x_iald (pc := 64) dX5_takes_64 hAt_same (vp_in_nI (n := 3) (by decide) (by decide)) (j := 3) (nI_clamp (n := 3) (by decide)) ?_
      refine x_mrg (pc' := 73) (L' := [(1, .int v1), (0, .ref o)]) (st' := [.int (if ((upd (upd x_rd (F4.toNatClampNeg) (x_rd 2)) (F5.toNatClampNeg) ((upd x_rd (F4.toNatClampNeg) (x_rd 2)) 3)) 2) = ((upd (upd x_rd (F4.toNatClampNeg) (x_rd 2)) (F5.toNatClampNeg) ((upd x_rd (F4.toNatClampNeg) (x_rd 2)) 3)) 3) then (1 : Int32) else (0 : Int32)), .int F6, .ref rd]) (h' := (hSet (hSet (hSet h o (moC nw rd sd pa xt m)) nw (arI 103 tn)) rd (arI 103 (upd (upd x_rd (F4.toNatClampNeg) (x_rd 2)) (F5.toNatClampNeg) ((upd x_rd (F4.toNatClampNeg) (x_rd 2)) 3))))) (fun J => ?_) ?_
      · refine x_icmp_ne (pc := 65) (tgt := 72) dX5_takes_65 (by decide) (fun (c2 : ¬ (((upd (upd x_rd (F4.toNatClampNeg) (x_rd 2)) (F5.toNatClampNeg) ((upd x_rd (F4.toNatClampNeg) (x_rd 2)) 3)) 2) = ((upd (upd x_rd (F4.toNatClampNeg) (x_rd 2)) (F5.toNatClampNeg) ((upd x_rd (F4.toNatClampNeg) (x_rd 2)) 3)) 3))) => ?_) (fun (c2 : ((upd (upd x_rd (F4.toNatClampNeg) (x_rd 2)) (F5.toNatClampNeg) ((upd x_rd (F4.toNatClampNeg) (x_rd 2)) 3)) 2) = ((upd (upd x_rd (F4.toNatClampNeg) (x_rd 2)) (F5.toNatClampNeg) ((upd x_rd (F4.toNatClampNeg) (x_rd 2)) 3)) 3)) => ?_)
        · refine x_iconst (pc := 72) (v := (0 : Int32)) dX5_takes_72 (by decide) ?_
          rw [if_neg c2] at J
          exact J
        · refine x_iconst (pc := 68) (v := (1 : Int32)) dX5_takes_68 (by decide) ?_
          refine x_goto (pc := 69) (tgt := 73) dX5_takes_69 (by decide) ?_
          rw [if_pos c2] at J
          exact J
      obtain ⟨q73, hp⟩ := hp
      refine x_iast (pc := 73) (e' := arI 103 (upd (upd (upd x_rd (F4.toNatClampNeg) (x_rd 2)) (F5.toNatClampNeg) ((upd x_rd (F4.toNatClampNeg) (x_rd 2)) 3)) (F6.toNatClampNeg) (if ((upd (upd x_rd (F4.toNatClampNeg) (x_rd 2)) (F5.toNatClampNeg) ((upd x_rd (F4.toNatClampNeg) (x_rd 2)) 3)) 2) = ((upd (upd x_rd (F4.toNatClampNeg) (x_rd 2)) (F5.toNatClampNeg) ((upd x_rd (F4.toNatClampNeg) (x_rd 2)) 3)) 3) then (1 : Int32) else (0 : Int32)))) dX5_takes_73 hAt_same q73 (j := (F6.toNatClampNeg)) rfl rfl ?_
      refine Wp.eqh (h' := (hSet (hSet (hSet h o (moC nw rd sd pa xt m)) nw (arI 103 tn)) rd (arI 103 (upd (upd (upd x_rd (F4.toNatClampNeg) (x_rd 2)) (F5.toNatClampNeg) ((upd x_rd (F4.toNatClampNeg) (x_rd 2)) 3)) (F6.toNatClampNeg) (if ((upd (upd x_rd (F4.toNatClampNeg) (x_rd 2)) (F5.toNatClampNeg) ((upd x_rd (F4.toNatClampNeg) (x_rd 2)) 3)) 2) = ((upd (upd x_rd (F4.toNatClampNeg) (x_rd 2)) (F5.toNatClampNeg) ((upd x_rd (F4.toNatClampNeg) (x_rd 2)) 3)) 3) then (1 : Int32) else (0 : Int32)))))) (hSet_set) ?_
      refine x_iinc (pc := 74) (v := (v1 + (1 : Int32))) (L' := [(1, .int (v1 + (1 : Int32))), (0, .ref o)]) dX5_takes_74 rfl rfl rfl rfl ?_
      refine x_goto (pc := 77) (tgt := 2) dX5_takes_77 (by decide) ?_
      subst er
      exact ih (v1 + (1 : Int32)) (upd (upd (upd x_rd (F4.toNatClampNeg) (x_rd 2)) (F5.toNatClampNeg) ((upd x_rd (F4.toNatClampNeg) (x_rd 2)) 3)) (F6.toNatClampNeg) (if ((upd (upd x_rd (F4.toNatClampNeg) (x_rd 2)) (F5.toNatClampNeg) ((upd x_rd (F4.toNatClampNeg) (x_rd 2)) 3)) 2) = ((upd (upd x_rd (F4.toNatClampNeg) (x_rd 2)) (F5.toNatClampNeg) ((upd x_rd (F4.toNatClampNeg) (x_rd 2)) 3)) 3) then (1 : Int32) else (0 : Int32))) hp kk
def f_X5_takes (m tn tr : Nat → Int32) : (Nat → Int32) × (Nat → Int32) × (Nat → Int32) := ((upd m 0 (0 : Int32)), (f_X5_copiesA (l_X5_takes_2 xK m tn tr (0 : Int32) tr).2 tn (0 : Int32) (0 : Int32)), (l_X5_takes_2 xK m tn tr (0 : Int32) tr).2)
def p_X5_takes (m tn tr : Nat → Int32) : Prop := ((q_X5_takes_2 xK m tn tr (0 : Int32) tr) ∧ (p_X5_copiesA (l_X5_takes_2 xK m tn tr (0 : Int32) tr).2 tn (0 : Int32) (0 : Int32) ∧ True))
set_option maxRecDepth 100000 in
set_option maxHeartbeats 4000000 in
theorem C_X5_takes (G : xG) (h : xH) (o nw rd sd pa xt : Nat) (m tn tr : Nat → Int32) (k_o : hAt h o = some (moC nw rd sd pa xt m)) (k_nw : hAt h nw = some (arI 103 tn)) (k_rd : hAt h rd = some (arI 103 tr)) (n_nw_rd : nw ≠ rd) (hp : p_X5_takes m tn tr) : Cd G 1 yX5_takes cX5_takes 2 none [.ref o] h none (hSet (hSet (hSet h o (moC nw rd sd pa xt (f_X5_takes m tn tr).1)) nw (arI 103 (f_X5_takes m tn tr).2.1)) rd (arI 103 (f_X5_takes m tn tr).2.2)) := by
  have n_o_nw : o ≠ nw := hne_k k_o k_nw rfl
  have n_o_rd : o ≠ rd := hne_k k_o k_rd rfl
  have n_rd_nw : rd ≠ nw := Ne.symm n_nw_rd
  refine Ct.of (by decide) (by rfl) ?_
  refine Wp.eqs (L' := [(0, .ref o)]) (st' := []) rfl rfl ?_
  refine Wp.eqh (h' := (hSet (hSet (hSet h o (moC nw rd sd pa xt m)) nw (arI 103 tn)) rd (arI 103 tr))) (by rw [hSet_self k_o, hSet_self k_nw, hSet_self k_rd]) ?_
  obtain ⟨R, er⟩ : ∃ R, R = f_X5_takes m tn tr := ⟨_, rfl⟩
  rw [← er]
  unfold f_X5_takes at er
  unfold p_X5_takes at hp
  refine x_iconst (pc := 0) (v := (0 : Int32)) dX5_takes_0 (by decide) ?_
  refine x_istore_n (pc := 1) (L' := [(1, .int (0 : Int32)), (0, .ref o)]) dX5_takes_1 rfl rfl ?_
  obtain ⟨ql2, hp⟩ := hp
  refine L_X5_takes_2 G h o nw rd sd pa xt m tn tr k_o k_nw k_rd n_nw_rd xK (0 : Int32) tr ql2 ?_
  obtain ⟨F7, eF7⟩ : ∃ F, F = l_X5_takes_2 xK m tn tr (0 : Int32) tr := ⟨_, rfl⟩
  rw [← eF7]
  try rw [← eF7] at er
  try rw [← eF7] at hp
  refine x_aload_n (pc := 80) dX5_takes_80 rfl ?_
  refine x_getf (pc := 81) (v := .ref rd) dX5_takes_81 xf_X5_13 (hAt_n n_o_rd (hAt_n n_o_nw hAt_same)) rfl ?_
  refine x_iconst (pc := 84) (v := (0 : Int32)) dX5_takes_84 (by decide) ?_
  refine x_aload_n (pc := 85) dX5_takes_85 rfl ?_
  refine x_getf (pc := 86) (v := .ref nw) dX5_takes_86 xf_X5_7 (hAt_n n_o_rd (hAt_n n_o_nw hAt_same)) rfl ?_
  refine x_iconst (pc := 89) (v := (0 : Int32)) dX5_takes_89 (by decide) ?_
  obtain ⟨q90, hp⟩ := hp
  refine x_cS4v (pc := 90) dX5_takes_90 xl_X5_43 xs_X5_copies (C_X5_copiesA G _ rd nw F7.2 tn (0 : Int32) (0 : Int32) hAt_same (hAt_n n_nw_rd hAt_same) n_rd_nw q90) rfl rfl rfl ?_
  obtain ⟨F8, eF8⟩ : ∃ F, F = f_X5_copiesA F7.2 tn (0 : Int32) (0 : Int32) := ⟨_, rfl⟩
  rw [← eF8]
  try rw [← eF8] at er
  try rw [← eF8] at hp
  refine Wp.eqh (h' := (hSet (hSet (hSet h o (moC nw rd sd pa xt m)) nw (arI 103 F8)) rd (arI 103 F7.2))) (hSet_sw1 n_nw_rd) ?_
  refine x_aload_n (pc := 93) dX5_takes_93 rfl ?_
  refine x_iconst (pc := 94) (v := (0 : Int32)) dX5_takes_94 (by decide) ?_
  refine x_putf (pc := 95) (e' := moC nw rd sd pa xt (upd m 0 (0 : Int32))) dX5_takes_95 xf_X5_47 (hAt_n n_o_rd (hAt_n n_o_nw hAt_same)) rfl rfl rfl rfl ?_
  refine Wp.eqh (h' := (hSet (hSet (hSet h o (moC nw rd sd pa xt (upd m 0 (0 : Int32)))) nw (arI 103 F8)) rd (arI 103 F7.2))) (hSet_sw2 n_o_nw n_o_rd) ?_
  subst er
  exact x_vret (pc := 98) dX5_takes_98 rfl rfl rfl ⟨rfl, rfl⟩
end
section
def g_X5_isAt_8 (m : (Nat → Int32)) (tx : (Nat → Int32)) (lo : Int32) (hi : Int32) (y0 : Int32) (y1 : Int32) : Int32 := (if y0 ≤ y1 then (0 : Int32) else (if (f_X5_in (tx ((m 2).toNatClampNeg)) lo hi) = 0 then (0 : Int32) else (1 : Int32)))
def h_X5_isAt_8 (m : (Nat → Int32)) (tx : (Nat → Int32)) (lo : Int32) (hi : Int32) (y0 : Int32) (y1 : Int32) : Prop := ((y0 ≤ y1 → True) ∧ (¬ (y0 ≤ y1) → (vp_in (m 2) 240 ∧ (((f_X5_in (tx ((m 2).toNatClampNeg)) lo hi) = 0 → True) ∧ (¬ ((f_X5_in (tx ((m 2).toNatClampNeg)) lo hi) = 0) → True)))))
theorem Bg_X5_isAt_8 (m : (Nat → Int32)) (tx : (Nat → Int32)) (lo : Int32) (hi : Int32) (y0 : Int32) (y1 : Int32) : xB (g_X5_isAt_8 m tx lo hi y0 y1) := by
  unfold g_X5_isAt_8
  exact (xB_ite xB0 (xB_ite xB0 xB1))
def f_X5_isAt (m tx : Nat → Int32) (lo hi : Int32) : Int32 := (g_X5_isAt_8 m tx lo hi (m 1) (m 2))
def p_X5_isAt (m tx : Nat → Int32) (lo hi : Int32) : Prop := ((h_X5_isAt_8 m tx lo hi (m 1) (m 2)) ∧ True)
set_option maxRecDepth 100000 in
set_option maxHeartbeats 4000000 in
theorem C_X5_isAt (G : xG) (h : xH) (o nw rd sd pa xt : Nat) (m tx : Nat → Int32) (lo hi : Int32) (k_o : hAt h o = some (moC nw rd sd pa xt m)) (k_xt : hAt h xt = some (arI 240 tx)) (hp : p_X5_isAt m tx lo hi) : Cd G 1 yX5_isAt cX5_isAt 3 (some .boolean) [.ref o, .int lo, .int hi] h (some (.int (f_X5_isAt m tx lo hi))) h := by
  refine Ct.of (by decide) (by rfl) ?_
  refine Wp.eqs (L' := [(0, .ref o), (1, .int lo), (2, .int hi)]) (st' := []) rfl rfl ?_
  obtain ⟨R, er⟩ : ∃ R, R = f_X5_isAt m tx lo hi := ⟨_, rfl⟩
  rw [← er]
  unfold f_X5_isAt at er
  unfold p_X5_isAt at hp
  refine x_aload_n (pc := 0) dX5_isAt_0 rfl ?_
  refine x_getf (pc := 1) (v := .int (m 2)) dX5_isAt_1 xf_X5_51 k_o rfl ?_
  refine x_aload_n (pc := 4) dX5_isAt_4 rfl ?_
  refine x_getf (pc := 5) (v := .int (m 1)) dX5_isAt_5 xf_X5_54 k_o rfl ?_
  obtain ⟨qr8, hp⟩ := hp
  obtain ⟨F3, eF3⟩ : ∃ F, F = g_X5_isAt_8 m tx lo hi (m 1) (m 2) := ⟨_, rfl⟩
  try rw [← eF3] at er
  try rw [← eF3] at hp
  have bF3 : xB F3 := by rw [eF3]; exact (Bg_X5_isAt_8 _ _ _ _ _ _)
  refine x_mrg (pc' := 33) (L' := [(0, .ref o), (1, .int lo), (2, .int hi)]) (st' := [.int F3]) (h' := h) (fun J => ?_) ?_
  · unfold g_X5_isAt_8 at eF3
    unfold h_X5_isAt_8 at qr8
    refine x_icmp_ge (pc := 8) (tgt := 32) dX5_isAt_8 (by decide) (fun (c3 : (m 1) ≤ (m 2)) => ?_) (fun (c3 : ¬ ((m 1) ≤ (m 2))) => ?_)
    · rw [if_pos c3] at eF3
      replace qr8 := qr8.1 c3
      refine x_iconst (pc := 32) (v := (0 : Int32)) dX5_isAt_32 (by decide) ?_
      subst eF3
      exact J
    · rw [if_neg c3] at eF3
      replace qr8 := qr8.2 c3
      refine x_aload_n (pc := 11) dX5_isAt_11 rfl ?_
      refine x_getf (pc := 12) (v := .ref xt) dX5_isAt_12 xf_X5_22 k_o rfl ?_
      refine x_aload_n (pc := 15) dX5_isAt_15 rfl ?_
      refine x_getf (pc := 16) (v := .int (m 2)) dX5_isAt_16 xf_X5_51 k_o rfl ?_
      obtain ⟨q19, qr8⟩ := qr8
      refine x_iald (pc := 19) dX5_isAt_19 k_xt q19 (j := ((m 2).toNatClampNeg)) rfl ?_
      refine x_iload_n (pc := 20) dX5_isAt_20 rfl ?_
      refine x_iload_n (pc := 21) dX5_isAt_21 rfl ?_
      refine x_cS3i (pc := 22) dX5_isAt_22 xl_X5_57 xs_X5_in (C_X5_in G _ (tx ((m 2).toNatClampNeg)) lo hi) rfl rfl rfl ?_
      obtain ⟨F2, eF2⟩ : ∃ F, F = f_X5_in (tx ((m 2).toNatClampNeg)) lo hi := ⟨_, rfl⟩
      rw [← eF2]
      try rw [← eF2] at eF3
      try rw [← eF2] at qr8
      have bF2 : xB F2 := by rw [eF2]; exact (B_X5_in _ _ _)
      refine x_if_eq (pc := 25) (tgt := 32) dX5_isAt_25 (by decide) (fun (c4 : F2 = 0) => ?_) (fun (c4 : ¬ (F2 = 0)) => ?_)
      · rw [if_pos c4] at eF3
        replace qr8 := qr8.1 c4
        refine x_iconst (pc := 32) (v := (0 : Int32)) dX5_isAt_32 (by decide) ?_
        subst eF3
        exact J
      · rw [if_neg c4] at eF3
        replace qr8 := qr8.2 c4
        refine x_iconst (pc := 28) (v := (1 : Int32)) dX5_isAt_28 (by decide) ?_
        refine x_goto (pc := 29) (tgt := 33) dX5_isAt_29 (by decide) ?_
        subst eF3
        exact J
  subst er
  exact x_iret (pc := 33) dX5_isAt_33 rfl (xb_nar bF3) rfl rfl ⟨rfl, rfl⟩
theorem B_X5_isAt (m tx : Nat → Int32) (lo hi : Int32) : xB (f_X5_isAt m tx lo hi) := by
  unfold f_X5_isAt
  exact (Bg_X5_isAt_8 _ _ _ _ _ _)

def f_X5_takesSign (m tx : Nat → Int32) (sign : Int32) : Int32 × (Nat → Int32) := ((f_X5_isAt m tx sign sign), (upd m 2 ((m 2) + (if (f_X5_isAt m tx sign sign) = 0 then (0 : Int32) else (1 : Int32)))))
def p_X5_takesSign (m tx : Nat → Int32) (sign : Int32) : Prop := (p_X5_isAt m tx sign sign ∧ True)
set_option maxRecDepth 100000 in
set_option maxHeartbeats 4000000 in
theorem C_X5_takesSign (G : xG) (h : xH) (o nw rd sd pa xt : Nat) (m tx : Nat → Int32) (sign : Int32) (k_o : hAt h o = some (moC nw rd sd pa xt m)) (k_xt : hAt h xt = some (arI 240 tx)) (hp : p_X5_takesSign m tx sign) : Cd G 2 yX5_takesSign cX5_takesSign 3 (some .boolean) [.ref o, .int sign] h (some (.int (f_X5_takesSign m tx sign).1)) (hSet h o (moC nw rd sd pa xt (f_X5_takesSign m tx sign).2)) := by
  have n_xt_o : xt ≠ o := hne_k k_xt k_o rfl
  refine Ct.of (by decide) (by rfl) ?_
  refine Wp.eqs (L' := [(0, .ref o), (1, .int sign)]) (st' := []) rfl rfl ?_
  refine Wp.eqh (h' := (hSet h o (moC nw rd sd pa xt m))) (by rw [hSet_self k_o]) ?_
  obtain ⟨R, er⟩ : ∃ R, R = f_X5_takesSign m tx sign := ⟨_, rfl⟩
  rw [← er]
  unfold f_X5_takesSign at er
  unfold p_X5_takesSign at hp
  refine x_aload_n (pc := 0) dX5_takesSign_0 rfl ?_
  refine x_iload_n (pc := 1) dX5_takesSign_1 rfl ?_
  refine x_iload_n (pc := 2) dX5_takesSign_2 rfl ?_
  obtain ⟨q3, hp⟩ := hp
  refine x_cV2i (pc := 3) dX5_takesSign_3 xl_X5_61 xv_X5_isAt hAt_same rfl (C_X5_isAt G _ o nw rd sd pa xt m tx sign sign hAt_same (hAt_n n_xt_o k_xt) q3) rfl rfl rfl ?_
  obtain ⟨F1, eF1⟩ : ∃ F, F = f_X5_isAt m tx sign sign := ⟨_, rfl⟩
  rw [← eF1]
  try rw [← eF1] at er
  try rw [← eF1] at hp
  have bF1 : xB F1 := by rw [eF1]; exact (B_X5_isAt _ _ _ _)
  refine x_istore_n (pc := 6) (L' := [(2, .int F1), (0, .ref o), (1, .int sign)]) dX5_takesSign_6 rfl rfl ?_
  refine x_aload_n (pc := 7) dX5_takesSign_7 rfl ?_
  refine x_dup (pc := 8) dX5_takesSign_8 rfl ?_
  refine x_getf (pc := 9) (v := .int (m 2)) dX5_takesSign_9 xf_X5_51 hAt_same rfl ?_
  refine x_iload_n (pc := 12) dX5_takesSign_12 rfl ?_
  refine x_mrg (pc' := 21) (L' := [(2, .int F1), (0, .ref o), (1, .int sign)]) (st' := [.int (if F1 = 0 then (0 : Int32) else (1 : Int32)), .int (m 2), .ref o]) (h' := (hSet h o (moC nw rd sd pa xt m))) (fun J => ?_) ?_
  · refine x_if_eq (pc := 13) (tgt := 20) dX5_takesSign_13 (by decide) (fun (c1 : F1 = 0) => ?_) (fun (c1 : ¬ (F1 = 0)) => ?_)
    · refine x_iconst (pc := 20) (v := (0 : Int32)) dX5_takesSign_20 (by decide) ?_
      rw [if_pos c1] at J
      exact J
    · refine x_iconst (pc := 16) (v := (1 : Int32)) dX5_takesSign_16 (by decide) ?_
      refine x_goto (pc := 17) (tgt := 21) dX5_takesSign_17 (by decide) ?_
      rw [if_neg c1] at J
      exact J
  refine x_iadd (pc := 21) dX5_takesSign_21 ?_
  refine x_putf (pc := 22) (e' := moC nw rd sd pa xt (upd m 2 ((m 2) + (if F1 = 0 then (0 : Int32) else (1 : Int32))))) dX5_takesSign_22 xf_X5_51 hAt_same rfl rfl rfl rfl ?_
  refine Wp.eqh (h' := (hSet h o (moC nw rd sd pa xt (upd m 2 ((m 2) + (if F1 = 0 then (0 : Int32) else (1 : Int32))))))) (hSet_set) ?_
  refine x_iload_n (pc := 25) dX5_takesSign_25 rfl ?_
  subst er
  exact x_iret (pc := 26) dX5_takesSign_26 rfl (xb_nar bF1) rfl rfl ⟨rfl, rfl⟩
theorem B_X5_takesSign (m tx : Nat → Int32) (sign : Int32) : xB (f_X5_takesSign m tx sign).1 := by
  unfold f_X5_takesSign
  exact (xB_fst (B_X5_isAt _ _ _ _))

def g_X5_takesWord_18 (tx : (Nat → Int32)) (v3 : Int32) (v1 : Int64) (x_o : (Nat → Int32)) : Int64 := (if (8 : Int32) ≤ v3 then (-4 : Int64) else ((((32 : Int64) * v1) + ((tx ((x_o 2).toNatClampNeg))).toInt64) - (96 : Int64)))
def h_X5_takesWord_18 (tx : (Nat → Int32)) (v3 : Int32) (v1 : Int64) (x_o : (Nat → Int32)) : Prop := (((8 : Int32) ≤ v3 → True) ∧ (¬ ((8 : Int32) ≤ v3) → (vp_in (x_o 2) 240 ∧ True)))
def l_X5_takesWord_4 : Nat → (Nat → Int32) → (Nat → Int32) → Int32 → Int64 → (Nat → Int32) → Int32 × Int64 × (Nat → Int32)
  | 0, _, _, _, _, _ => (0, 0, (fun _ => 0))
  | n + 1, m, tx, v3, v1, x_o => (if (f_X5_isAt x_o tx (97 : Int32) (122 : Int32)) = 0 then (v3, v1, x_o) else (l_X5_takesWord_4 n m tx (if 0 ≤ (lg_cmp (g_X5_takesWord_18 tx v3 v1 x_o) (0 : Int64)) then (v3 + (1 : Int32)) else (9 : Int32)) (g_X5_takesWord_18 tx v3 v1 x_o) (upd x_o 2 ((x_o 2) + (1 : Int32)))))
def q_X5_takesWord_4 : Nat → (Nat → Int32) → (Nat → Int32) → Int32 → Int64 → (Nat → Int32) → Prop
  | 0, _, _, _, _, _ => False
  | n + 1, m, tx, v3, v1, x_o => (p_X5_isAt x_o tx (97 : Int32) (122 : Int32) ∧ (((f_X5_isAt x_o tx (97 : Int32) (122 : Int32)) = 0 → True) ∧ (¬ ((f_X5_isAt x_o tx (97 : Int32) (122 : Int32)) = 0) → ((h_X5_takesWord_18 tx v3 v1 x_o) ∧ (q_X5_takesWord_4 n m tx (if 0 ≤ (lg_cmp (g_X5_takesWord_18 tx v3 v1 x_o) (0 : Int64)) then (v3 + (1 : Int32)) else (9 : Int32)) (g_X5_takesWord_18 tx v3 v1 x_o) (upd x_o 2 ((x_o 2) + (1 : Int32))))))))
set_option maxRecDepth 100000 in
set_option maxHeartbeats 4000000 in
theorem L_X5_takesWord_4 (G : xG) (h : xH) (o nw rd sd pa xt : Nat) (m tx : Nat → Int32) (k_o : hAt h o = some (moC nw rd sd pa xt m)) (k_xt : hAt h xt = some (arI 240 tx)) {Z : xZ} : ∀ (n : Nat) (v3 : Int32) (v1 : Int64) (x_o : (Nat → Int32)), q_X5_takesWord_4 n m tx v3 v1 x_o → Wp G yX5_takesWord.cls cX5_takesWord 4 yX5_takesWord.name (some .long) (xR 2 0 0) Z 0 0 76 [(3, .int (l_X5_takesWord_4 n m tx v3 v1 x_o).1), (1, .long (l_X5_takesWord_4 n m tx v3 v1 x_o).2.1), (0, .ref o)] [] (hSet h o (moC nw rd sd pa xt (l_X5_takesWord_4 n m tx v3 v1 x_o).2.2)) → Wp G yX5_takesWord.cls cX5_takesWord 4 yX5_takesWord.name (some .long) (xR 2 0 0) Z 0 0 4 [(3, .int v3), (1, .long v1), (0, .ref o)] [] (hSet h o (moC nw rd sd pa xt x_o)) := by
  have n_xt_o : xt ≠ o := hne_k k_xt k_o rfl
  intro n
  induction n with
  | zero => intro v3 v1 x_o hp; exact absurd hp id
  | succ n ih =>
    intro v3 v1 x_o hp kk
    obtain ⟨R, er⟩ : ∃ R, R = l_X5_takesWord_4 (n + 1) m tx v3 v1 x_o := ⟨_, rfl⟩
    rw [← er] at kk
    rw [l_X5_takesWord_4] at er
    rw [q_X5_takesWord_4] at hp
    refine x_aload_n (pc := 4) dX5_takesWord_4 rfl ?_
    refine x_bipush (pc := 5) (v := (97 : Int32)) dX5_takesWord_5 (by decide) ?_
    refine x_bipush (pc := 7) (v := (122 : Int32)) dX5_takesWord_7 (by decide) ?_
    obtain ⟨q9, hp⟩ := hp
    refine x_cV2i (pc := 9) dX5_takesWord_9 xl_X5_61 xv_X5_isAt hAt_same rfl (C_X5_isAt G _ o nw rd sd pa xt x_o tx (97 : Int32) (122 : Int32) hAt_same (hAt_n n_xt_o k_xt) q9) rfl rfl rfl ?_
    obtain ⟨F2, eF2⟩ : ∃ F, F = f_X5_isAt x_o tx (97 : Int32) (122 : Int32) := ⟨_, rfl⟩
    rw [← eF2]
    try rw [← eF2] at er
    try rw [← eF2] at hp
    have bF2 : xB F2 := by rw [eF2]; exact (B_X5_isAt _ _ _ _)
    refine x_if_eq (pc := 12) (tgt := 76) dX5_takesWord_12 (by decide) (fun (c1 : F2 = 0) => ?_) (fun (c1 : ¬ (F2 = 0)) => ?_)
    · rw [if_pos c1] at er
      replace hp := hp.1 c1
      subst er
      exact kk
    · rw [if_neg c1] at er
      replace hp := hp.2 c1
      refine x_iload_n (pc := 15) dX5_takesWord_15 rfl ?_
      refine x_bipush (pc := 16) (v := (8 : Int32)) dX5_takesWord_16 (by decide) ?_
      obtain ⟨qr18, hp⟩ := hp
      obtain ⟨F3, eF3⟩ : ∃ F, F = g_X5_takesWord_18 tx v3 v1 x_o := ⟨_, rfl⟩
      try rw [← eF3] at er
      try rw [← eF3] at hp
      refine x_mrg (pc' := 47) (L' := [(3, .int v3), (1, .long v1), (0, .ref o)]) (st' := [.long F3]) (h' := (hSet h o (moC nw rd sd pa xt x_o))) (fun J => ?_) ?_
      · unfold g_X5_takesWord_18 at eF3
        unfold h_X5_takesWord_18 at qr18
        try rw [← eF2] at eF3
        try rw [← eF2] at qr18
        refine x_icmp_ge (pc := 18) (tgt := 44) dX5_takesWord_18 (by decide) (fun (c3 : (8 : Int32) ≤ v3) => ?_) (fun (c3 : ¬ ((8 : Int32) ≤ v3)) => ?_)
        · rw [if_pos c3] at eF3
          replace qr18 := qr18.1 c3
          refine x_ldc2 (pc := 44) (v := (-4 : Int64)) dX5_takesWord_44 xk_X5_68 ?_
          subst eF3
          exact J
        · rw [if_neg c3] at eF3
          replace qr18 := qr18.2 c3
          refine x_ldc2 (pc := 21) (v := (32 : Int64)) dX5_takesWord_21 xk_X5_64 ?_
          refine x_lload_n (pc := 24) dX5_takesWord_24 rfl ?_
          refine x_lmul (pc := 25) dX5_takesWord_25 ?_
          refine x_aload_n (pc := 26) dX5_takesWord_26 rfl ?_
          refine x_getf (pc := 27) (v := .ref xt) dX5_takesWord_27 xf_X5_22 hAt_same rfl ?_
          refine x_aload_n (pc := 30) dX5_takesWord_30 rfl ?_
          refine x_getf (pc := 31) (v := .int (x_o 2)) dX5_takesWord_31 xf_X5_51 hAt_same rfl ?_
          obtain ⟨q34, qr18⟩ := qr18
          refine x_iald (pc := 34) dX5_takesWord_34 (hAt_n n_xt_o k_xt) q34 (j := ((x_o 2).toNatClampNeg)) rfl ?_
          refine x_i2l (pc := 35) dX5_takesWord_35 ?_
          refine x_ladd (pc := 36) dX5_takesWord_36 ?_
          refine x_ldc2 (pc := 37) (v := (96 : Int64)) dX5_takesWord_37 xk_X5_66 ?_
          refine x_lsub (pc := 40) dX5_takesWord_40 ?_
          refine x_goto (pc := 41) (tgt := 47) dX5_takesWord_41 (by decide) ?_
          subst eF3
          exact J
      refine x_lstore_n (pc := 47) (L' := [(1, .long F3), (3, .int v3), (0, .ref o)]) dX5_takesWord_47 rfl rfl ?_
      refine x_lload_n (pc := 48) dX5_takesWord_48 rfl ?_
      refine x_lconst (pc := 49) (v := (0 : Int64)) dX5_takesWord_49 (by decide) ?_
      refine x_lcmp (pc := 50) dX5_takesWord_50 ?_
      refine x_mrg (pc' := 62) (L' := [(1, .long F3), (3, .int v3), (0, .ref o)]) (st' := [.int (if 0 ≤ (lg_cmp F3 (0 : Int64)) then (v3 + (1 : Int32)) else (9 : Int32))]) (h' := (hSet h o (moC nw rd sd pa xt x_o))) (fun J => ?_) ?_
      · refine x_if_ge (pc := 51) (tgt := 59) dX5_takesWord_51 (by decide) (fun (c4 : 0 ≤ (lg_cmp F3 (0 : Int64))) => ?_) (fun (c4 : ¬ (0 ≤ (lg_cmp F3 (0 : Int64)))) => ?_)
        · refine x_iload_n (pc := 59) dX5_takesWord_59 rfl ?_
          refine x_iconst (pc := 60) (v := (1 : Int32)) dX5_takesWord_60 (by decide) ?_
          refine x_iadd (pc := 61) dX5_takesWord_61 ?_
          rw [if_pos c4] at J
          exact J
        · refine x_bipush (pc := 54) (v := (9 : Int32)) dX5_takesWord_54 (by decide) ?_
          refine x_goto (pc := 56) (tgt := 62) dX5_takesWord_56 (by decide) ?_
          rw [if_neg c4] at J
          exact J
      refine x_istore_n (pc := 62) (L' := [(3, .int (if 0 ≤ (lg_cmp F3 (0 : Int64)) then (v3 + (1 : Int32)) else (9 : Int32))), (1, .long F3), (0, .ref o)]) dX5_takesWord_62 rfl rfl ?_
      refine x_aload_n (pc := 63) dX5_takesWord_63 rfl ?_
      refine x_dup (pc := 64) dX5_takesWord_64 rfl ?_
      refine x_getf (pc := 65) (v := .int (x_o 2)) dX5_takesWord_65 xf_X5_51 hAt_same rfl ?_
      refine x_iconst (pc := 68) (v := (1 : Int32)) dX5_takesWord_68 (by decide) ?_
      refine x_iadd (pc := 69) dX5_takesWord_69 ?_
      refine x_putf (pc := 70) (e' := moC nw rd sd pa xt (upd x_o 2 ((x_o 2) + (1 : Int32)))) dX5_takesWord_70 xf_X5_51 hAt_same rfl rfl rfl rfl ?_
      refine Wp.eqh (h' := (hSet h o (moC nw rd sd pa xt (upd x_o 2 ((x_o 2) + (1 : Int32)))))) (hSet_set) ?_
      refine x_goto (pc := 73) (tgt := 4) dX5_takesWord_73 (by decide) ?_
      subst er
      exact ih (if 0 ≤ (lg_cmp F3 (0 : Int64)) then (v3 + (1 : Int32)) else (9 : Int32)) F3 (upd x_o 2 ((x_o 2) + (1 : Int32))) hp kk
def f_X5_takesWord (m tx : Nat → Int32) : Int64 × (Nat → Int32) := ((l_X5_takesWord_4 xK m tx (0 : Int32) (0 : Int64) m).2.1, (l_X5_takesWord_4 xK m tx (0 : Int32) (0 : Int64) m).2.2)
def p_X5_takesWord (m tx : Nat → Int32) : Prop := ((q_X5_takesWord_4 xK m tx (0 : Int32) (0 : Int64) m) ∧ True)
set_option maxRecDepth 100000 in
set_option maxHeartbeats 4000000 in
theorem C_X5_takesWord (G : xG) (h : xH) (o nw rd sd pa xt : Nat) (m tx : Nat → Int32) (k_o : hAt h o = some (moC nw rd sd pa xt m)) (k_xt : hAt h xt = some (arI 240 tx)) (hp : p_X5_takesWord m tx) : Cd G 2 yX5_takesWord cX5_takesWord 4 (some .long) [.ref o] h (some (.long (f_X5_takesWord m tx).1)) (hSet h o (moC nw rd sd pa xt (f_X5_takesWord m tx).2)) := by
  have n_xt_o : xt ≠ o := hne_k k_xt k_o rfl
  refine Ct.of (by decide) (by rfl) ?_
  refine Wp.eqs (L' := [(0, .ref o)]) (st' := []) rfl rfl ?_
  refine Wp.eqh (h' := (hSet h o (moC nw rd sd pa xt m))) (by rw [hSet_self k_o]) ?_
  obtain ⟨R, er⟩ : ∃ R, R = f_X5_takesWord m tx := ⟨_, rfl⟩
  rw [← er]
  unfold f_X5_takesWord at er
  unfold p_X5_takesWord at hp
  refine x_lconst (pc := 0) (v := (0 : Int64)) dX5_takesWord_0 (by decide) ?_
  refine x_lstore_n (pc := 1) (L' := [(1, .long (0 : Int64)), (0, .ref o)]) dX5_takesWord_1 rfl rfl ?_
  refine x_iconst (pc := 2) (v := (0 : Int32)) dX5_takesWord_2 (by decide) ?_
  refine x_istore_n (pc := 3) (L' := [(3, .int (0 : Int32)), (1, .long (0 : Int64)), (0, .ref o)]) dX5_takesWord_3 rfl rfl ?_
  obtain ⟨ql4, hp⟩ := hp
  refine L_X5_takesWord_4 G h o nw rd sd pa xt m tx k_o k_xt  xK (0 : Int32) (0 : Int64) m ql4 ?_
  obtain ⟨F4, eF4⟩ : ∃ F, F = l_X5_takesWord_4 xK m tx (0 : Int32) (0 : Int64) m := ⟨_, rfl⟩
  rw [← eF4]
  try rw [← eF4] at er
  try rw [← eF4] at hp
  refine x_lload_n (pc := 76) dX5_takesWord_76 rfl ?_
  subst er
  exact x_lret (pc := 77) dX5_takesWord_77 rfl rfl rfl ⟨rfl, rfl⟩

def g_X5_takesNumber_79 (lo : Int32) (hi : Int32) (v4 : Int32) (v3 : Int32) (y0 : Int32) : Int32 := (if y0 ≤ v3 then (-4 : Int32) else (if (f_X5_in v4 lo hi) = 0 then (-4 : Int32) else v4))
def l_X5_takesNumber_20 : Nat → (Nat → Int32) → (Nat → Int32) → Int32 → Int32 → Int32 → (Nat → Int32) → Int32 → Int32 × (Nat → Int32) × Int32
  | 0, _, _, _, _, _, _, _ => (0, (fun _ => 0), 0)
  | n + 1, m, tx, lo, hi, v3, x_o, v4 => (if (v3 + (4 : Int32)) ≤ (x_o 2) then (v3, x_o, v4) else (if (f_X5_isAt x_o tx (48 : Int32) (57 : Int32)) = 0 then (v3, x_o, v4) else (l_X5_takesNumber_20 n m tx lo hi v3 (upd x_o 2 ((x_o 2) + (1 : Int32))) ((((10 : Int32) * v4) + (tx ((x_o 2).toNatClampNeg))) - (48 : Int32)))))
def q_X5_takesNumber_20 : Nat → (Nat → Int32) → (Nat → Int32) → Int32 → Int32 → Int32 → (Nat → Int32) → Int32 → Prop
  | 0, _, _, _, _, _, _, _ => False
  | n + 1, m, tx, lo, hi, v3, x_o, v4 => (((v3 + (4 : Int32)) ≤ (x_o 2) → True) ∧ (¬ ((v3 + (4 : Int32)) ≤ (x_o 2)) → (p_X5_isAt x_o tx (48 : Int32) (57 : Int32) ∧ (((f_X5_isAt x_o tx (48 : Int32) (57 : Int32)) = 0 → True) ∧ (¬ ((f_X5_isAt x_o tx (48 : Int32) (57 : Int32)) = 0) → (vp_in (x_o 2) 240 ∧ (q_X5_takesNumber_20 n m tx lo hi v3 (upd x_o 2 ((x_o 2) + (1 : Int32))) ((((10 : Int32) * v4) + (tx ((x_o 2).toNatClampNeg))) - (48 : Int32)))))))))
set_option maxRecDepth 100000 in
set_option maxHeartbeats 4000000 in
theorem L_X5_takesNumber_20 (G : xG) (h : xH) (o nw rd sd pa xt : Nat) (m tx : Nat → Int32) (lo hi : Int32) (k_o : hAt h o = some (moC nw rd sd pa xt m)) (k_xt : hAt h xt = some (arI 240 tx)) {Z : xZ} : ∀ (n : Nat) (v3 : Int32) (x_o : (Nat → Int32)) (v4 : Int32), q_X5_takesNumber_20 n m tx lo hi v3 x_o v4 → Wp G yX5_takesNumber.cls cX5_takesNumber 5 yX5_takesNumber.name (some .int) (xR 3 0 0) Z 0 0 74 [(4, .int (l_X5_takesNumber_20 n m tx lo hi v3 x_o v4).2.2), (3, .int (l_X5_takesNumber_20 n m tx lo hi v3 x_o v4).1), (0, .ref o), (1, .int lo), (2, .int hi)] [] (hSet h o (moC nw rd sd pa xt (l_X5_takesNumber_20 n m tx lo hi v3 x_o v4).2.1)) → Wp G yX5_takesNumber.cls cX5_takesNumber 5 yX5_takesNumber.name (some .int) (xR 3 0 0) Z 0 0 20 [(4, .int v4), (3, .int v3), (0, .ref o), (1, .int lo), (2, .int hi)] [] (hSet h o (moC nw rd sd pa xt x_o)) := by
  have n_xt_o : xt ≠ o := hne_k k_xt k_o rfl
  intro n
  induction n with
  | zero => intro v3 x_o v4 hp; exact absurd hp id
  | succ n ih =>
    intro v3 x_o v4 hp kk
    obtain ⟨R, er⟩ : ∃ R, R = l_X5_takesNumber_20 (n + 1) m tx lo hi v3 x_o v4 := ⟨_, rfl⟩
    rw [← er] at kk
    rw [l_X5_takesNumber_20] at er
    rw [q_X5_takesNumber_20] at hp
    refine x_aload_n (pc := 20) dX5_takesNumber_20 rfl ?_
    refine x_getf (pc := 21) (v := .int (x_o 2)) dX5_takesNumber_21 xf_X5_51 hAt_same rfl ?_
    refine x_iload_n (pc := 24) dX5_takesNumber_24 rfl ?_
    refine x_iconst (pc := 25) (v := (4 : Int32)) dX5_takesNumber_25 (by decide) ?_
    refine x_iadd (pc := 26) dX5_takesNumber_26 ?_
    refine x_icmp_ge (pc := 27) (tgt := 74) dX5_takesNumber_27 (by decide) (fun (c2 : (v3 + (4 : Int32)) ≤ (x_o 2)) => ?_) (fun (c2 : ¬ ((v3 + (4 : Int32)) ≤ (x_o 2))) => ?_)
    · rw [if_pos c2] at er
      replace hp := hp.1 c2
      subst er
      exact kk
    · rw [if_neg c2] at er
      replace hp := hp.2 c2
      refine x_aload_n (pc := 30) dX5_takesNumber_30 rfl ?_
      refine x_bipush (pc := 31) (v := (48 : Int32)) dX5_takesNumber_31 (by decide) ?_
      refine x_bipush (pc := 33) (v := (57 : Int32)) dX5_takesNumber_33 (by decide) ?_
      obtain ⟨q35, hp⟩ := hp
      refine x_cV2i (pc := 35) dX5_takesNumber_35 xl_X5_61 xv_X5_isAt hAt_same rfl (C_X5_isAt G _ o nw rd sd pa xt x_o tx (48 : Int32) (57 : Int32) hAt_same (hAt_n n_xt_o k_xt) q35) rfl rfl rfl ?_
      obtain ⟨F3, eF3⟩ : ∃ F, F = f_X5_isAt x_o tx (48 : Int32) (57 : Int32) := ⟨_, rfl⟩
      rw [← eF3]
      try rw [← eF3] at er
      try rw [← eF3] at hp
      have bF3 : xB F3 := by rw [eF3]; exact (B_X5_isAt _ _ _ _)
      refine x_if_eq (pc := 38) (tgt := 74) dX5_takesNumber_38 (by decide) (fun (c3 : F3 = 0) => ?_) (fun (c3 : ¬ (F3 = 0)) => ?_)
      · rw [if_pos c3] at er
        replace hp := hp.1 c3
        subst er
        exact kk
      · rw [if_neg c3] at er
        replace hp := hp.2 c3
        refine x_bipush (pc := 41) (v := (10 : Int32)) dX5_takesNumber_41 (by decide) ?_
        refine x_iload (pc := 43) dX5_takesNumber_43 rfl ?_
        refine x_imul (pc := 45) dX5_takesNumber_45 ?_
        refine x_aload_n (pc := 46) dX5_takesNumber_46 rfl ?_
        refine x_getf (pc := 47) (v := .ref xt) dX5_takesNumber_47 xf_X5_22 hAt_same rfl ?_
        refine x_aload_n (pc := 50) dX5_takesNumber_50 rfl ?_
        refine x_getf (pc := 51) (v := .int (x_o 2)) dX5_takesNumber_51 xf_X5_51 hAt_same rfl ?_
        obtain ⟨q54, hp⟩ := hp
        refine x_iald (pc := 54) dX5_takesNumber_54 (hAt_n n_xt_o k_xt) q54 (j := ((x_o 2).toNatClampNeg)) rfl ?_
        refine x_iadd (pc := 55) dX5_takesNumber_55 ?_
        refine x_bipush (pc := 56) (v := (48 : Int32)) dX5_takesNumber_56 (by decide) ?_
        refine x_isub (pc := 58) dX5_takesNumber_58 ?_
        refine x_istore (pc := 59) (L' := [(4, .int ((((10 : Int32) * v4) + (tx ((x_o 2).toNatClampNeg))) - (48 : Int32))), (3, .int v3), (0, .ref o), (1, .int lo), (2, .int hi)]) dX5_takesNumber_59 rfl rfl ?_
        refine x_aload_n (pc := 61) dX5_takesNumber_61 rfl ?_
        refine x_dup (pc := 62) dX5_takesNumber_62 rfl ?_
        refine x_getf (pc := 63) (v := .int (x_o 2)) dX5_takesNumber_63 xf_X5_51 hAt_same rfl ?_
        refine x_iconst (pc := 66) (v := (1 : Int32)) dX5_takesNumber_66 (by decide) ?_
        refine x_iadd (pc := 67) dX5_takesNumber_67 ?_
        refine x_putf (pc := 68) (e' := moC nw rd sd pa xt (upd x_o 2 ((x_o 2) + (1 : Int32)))) dX5_takesNumber_68 xf_X5_51 hAt_same rfl rfl rfl rfl ?_
        refine Wp.eqh (h' := (hSet h o (moC nw rd sd pa xt (upd x_o 2 ((x_o 2) + (1 : Int32)))))) (hSet_set) ?_
        refine x_goto (pc := 71) (tgt := 20) dX5_takesNumber_71 (by decide) ?_
        subst er
        exact ih v3 (upd x_o 2 ((x_o 2) + (1 : Int32))) ((((10 : Int32) * v4) + (tx ((x_o 2).toNatClampNeg))) - (48 : Int32)) hp kk
def f_X5_takesNumber (m tx : Nat → Int32) (lo hi : Int32) : Int32 × (Nat → Int32) := (if (f_X5_takesSign m tx (32 : Int32)).1 = 0 then ((-4 : Int32), (f_X5_takesSign m tx (32 : Int32)).2) else ((g_X5_takesNumber_79 lo hi (l_X5_takesNumber_20 xK m tx lo hi ((f_X5_takesSign m tx (32 : Int32)).2 2) (f_X5_takesSign m tx (32 : Int32)).2 (0 : Int32)).2.2 (l_X5_takesNumber_20 xK m tx lo hi ((f_X5_takesSign m tx (32 : Int32)).2 2) (f_X5_takesSign m tx (32 : Int32)).2 (0 : Int32)).1 ((l_X5_takesNumber_20 xK m tx lo hi ((f_X5_takesSign m tx (32 : Int32)).2 2) (f_X5_takesSign m tx (32 : Int32)).2 (0 : Int32)).2.1 2)), (l_X5_takesNumber_20 xK m tx lo hi ((f_X5_takesSign m tx (32 : Int32)).2 2) (f_X5_takesSign m tx (32 : Int32)).2 (0 : Int32)).2.1))
def p_X5_takesNumber (m tx : Nat → Int32) (lo hi : Int32) : Prop := (p_X5_takesSign m tx (32 : Int32) ∧ (((f_X5_takesSign m tx (32 : Int32)).1 = 0 → True) ∧ (¬ ((f_X5_takesSign m tx (32 : Int32)).1 = 0) → ((q_X5_takesNumber_20 xK m tx lo hi ((f_X5_takesSign m tx (32 : Int32)).2 2) (f_X5_takesSign m tx (32 : Int32)).2 (0 : Int32)) ∧ True))))
set_option maxRecDepth 100000 in
set_option maxHeartbeats 4000000 in
theorem C_X5_takesNumber (G : xG) (h : xH) (o nw rd sd pa xt : Nat) (m tx : Nat → Int32) (lo hi : Int32) (k_o : hAt h o = some (moC nw rd sd pa xt m)) (k_xt : hAt h xt = some (arI 240 tx)) (hp : p_X5_takesNumber m tx lo hi) : Cd G 3 yX5_takesNumber cX5_takesNumber 5 (some .int) [.ref o, .int lo, .int hi] h (some (.int (f_X5_takesNumber m tx lo hi).1)) (hSet h o (moC nw rd sd pa xt (f_X5_takesNumber m tx lo hi).2)) := by
  have n_xt_o : xt ≠ o := hne_k k_xt k_o rfl
  refine Ct.of (by decide) (by rfl) ?_
  refine Wp.eqs (L' := [(0, .ref o), (1, .int lo), (2, .int hi)]) (st' := []) rfl rfl ?_
  refine Wp.eqh (h' := (hSet h o (moC nw rd sd pa xt m))) (by rw [hSet_self k_o]) ?_
  obtain ⟨R, er⟩ : ∃ R, R = f_X5_takesNumber m tx lo hi := ⟨_, rfl⟩
  rw [← er]
  unfold f_X5_takesNumber at er
  unfold p_X5_takesNumber at hp
  refine x_aload_n (pc := 0) dX5_takesNumber_0 rfl ?_
  refine x_bipush (pc := 1) (v := (32 : Int32)) dX5_takesNumber_1 (by decide) ?_
  obtain ⟨q3, hp⟩ := hp
  refine x_cV1i (pc := 3) dX5_takesNumber_3 xl_X5_70 xv_X5_takesSign hAt_same rfl (C_X5_takesSign G _ o nw rd sd pa xt m tx (32 : Int32) hAt_same (hAt_n n_xt_o k_xt) q3) rfl rfl rfl ?_
  obtain ⟨F1, eF1⟩ : ∃ F, F = f_X5_takesSign m tx (32 : Int32) := ⟨_, rfl⟩
  rw [← eF1]
  try rw [← eF1] at er
  try rw [← eF1] at hp
  have bF1_1 : xB F1.1 := by rw [eF1]; exact (B_X5_takesSign _ _ _)
  refine Wp.eqh (h' := (hSet h o (moC nw rd sd pa xt F1.2))) (hSet_set) ?_
  refine x_if_ne (pc := 6) (tgt := 12) dX5_takesNumber_6 (by decide) (fun (c1 : ¬ (F1.1 = 0)) => ?_) (fun (c1 : F1.1 = 0) => ?_)
  · rw [if_neg c1] at er
    replace hp := hp.2 c1
    refine x_aload_n (pc := 12) dX5_takesNumber_12 rfl ?_
    refine x_getf (pc := 13) (v := .int (F1.2 2)) dX5_takesNumber_13 xf_X5_51 hAt_same rfl ?_
    refine x_istore_n (pc := 16) (L' := [(3, .int (F1.2 2)), (0, .ref o), (1, .int lo), (2, .int hi)]) dX5_takesNumber_16 rfl rfl ?_
    refine x_iconst (pc := 17) (v := (0 : Int32)) dX5_takesNumber_17 (by decide) ?_
    refine x_istore (pc := 18) (L' := [(4, .int (0 : Int32)), (3, .int (F1.2 2)), (0, .ref o), (1, .int lo), (2, .int hi)]) dX5_takesNumber_18 rfl rfl ?_
    obtain ⟨ql20, hp⟩ := hp
    refine L_X5_takesNumber_20 G h o nw rd sd pa xt m tx lo hi k_o k_xt  xK (F1.2 2) F1.2 (0 : Int32) ql20 ?_
    obtain ⟨F4, eF4⟩ : ∃ F, F = l_X5_takesNumber_20 xK m tx lo hi (F1.2 2) F1.2 (0 : Int32) := ⟨_, rfl⟩
    rw [← eF4]
    try rw [← eF4] at er
    try rw [← eF4] at hp
    refine x_aload_n (pc := 74) dX5_takesNumber_74 rfl ?_
    refine x_getf (pc := 75) (v := .int (F4.2.1 2)) dX5_takesNumber_75 xf_X5_51 hAt_same rfl ?_
    refine x_iload_n (pc := 78) dX5_takesNumber_78 rfl ?_
    obtain ⟨F7, eF7⟩ : ∃ F, F = g_X5_takesNumber_79 lo hi F4.2.2 F4.1 (F4.2.1 2) := ⟨_, rfl⟩
    try rw [← eF7] at er
    try rw [← eF7] at hp
    refine x_mrg (pc' := 99) (L' := [(4, .int F4.2.2), (3, .int F4.1), (0, .ref o), (1, .int lo), (2, .int hi)]) (st' := [.int F7]) (h' := (hSet h o (moC nw rd sd pa xt F4.2.1))) (fun J => ?_) ?_
    · unfold g_X5_takesNumber_79 at eF7
      try rw [← eF1] at eF7
      refine x_icmp_le (pc := 79) (tgt := 97) dX5_takesNumber_79 (by decide) (fun (c6 : (F4.2.1 2) ≤ F4.1) => ?_) (fun (c6 : ¬ ((F4.2.1 2) ≤ F4.1)) => ?_)
      · rw [if_pos c6] at eF7
        refine x_bipush (pc := 97) (v := (-4 : Int32)) dX5_takesNumber_97 (by decide) ?_
        subst eF7
        exact J
      · rw [if_neg c6] at eF7
        refine x_iload (pc := 82) dX5_takesNumber_82 rfl ?_
        refine x_iload_n (pc := 84) dX5_takesNumber_84 rfl ?_
        refine x_iload_n (pc := 85) dX5_takesNumber_85 rfl ?_
        refine x_cS3i (pc := 86) dX5_takesNumber_86 xl_X5_57 xs_X5_in (C_X5_in G _ F4.2.2 lo hi) rfl rfl rfl ?_
        obtain ⟨F6, eF6⟩ : ∃ F, F = f_X5_in F4.2.2 lo hi := ⟨_, rfl⟩
        rw [← eF6]
        try rw [← eF6] at eF7
        have bF6 : xB F6 := by rw [eF6]; exact (B_X5_in _ _ _)
        refine x_if_eq (pc := 89) (tgt := 97) dX5_takesNumber_89 (by decide) (fun (c7 : F6 = 0) => ?_) (fun (c7 : ¬ (F6 = 0)) => ?_)
        · rw [if_pos c7] at eF7
          refine x_bipush (pc := 97) (v := (-4 : Int32)) dX5_takesNumber_97 (by decide) ?_
          subst eF7
          exact J
        · rw [if_neg c7] at eF7
          refine x_iload (pc := 92) dX5_takesNumber_92 rfl ?_
          refine x_goto (pc := 94) (tgt := 99) dX5_takesNumber_94 (by decide) ?_
          subst eF7
          exact J
    subst er
    exact x_iret (pc := 99) dX5_takesNumber_99 rfl rfl rfl rfl ⟨rfl, rfl⟩
  · rw [if_pos c1] at er
    replace hp := hp.1 c1
    refine x_bipush (pc := 9) (v := (-4 : Int32)) dX5_takesNumber_9 (by decide) ?_
    subst er
    exact x_iret (pc := 11) dX5_takesNumber_11 rfl rfl rfl rfl ⟨rfl, rfl⟩
end
section
def g_X5_puts_17 (tr : (Nat → Int32)) (place : Int32) (v4 : Int32) : Int32 := (if v4 = (-4 : Int32) then (tr (place.toNatClampNeg)) else v4)
def h_X5_puts_17 (tr : (Nat → Int32)) (place : Int32) (v4 : Int32) : Prop := ((v4 = (-4 : Int32) → (vp_in place 103 ∧ True)) ∧ (¬ (v4 = (-4 : Int32)) → True))
def f_X5_puts (m tr tx : Nat → Int32) (place lo hi : Int32) : Int32 × (Nat → Int32) × (Nat → Int32) := ((if (f_X5_takesNumber m tx lo hi).1 = (-4 : Int32) then (0 : Int32) else (1 : Int32)), (f_X5_takesNumber m tx lo hi).2, (upd tr (place.toNatClampNeg) (g_X5_puts_17 tr place (f_X5_takesNumber m tx lo hi).1)))
def p_X5_puts (m tr tx : Nat → Int32) (place lo hi : Int32) : Prop := (p_X5_takesNumber m tx lo hi ∧ ((h_X5_puts_17 tr place (f_X5_takesNumber m tx lo hi).1) ∧ (vp_in place 103 ∧ True)))
set_option maxRecDepth 100000 in
set_option maxHeartbeats 4000000 in
theorem C_X5_puts (G : xG) (h : xH) (o nw rd sd pa xt : Nat) (m tr tx : Nat → Int32) (place lo hi : Int32) (k_o : hAt h o = some (moC nw rd sd pa xt m)) (k_rd : hAt h rd = some (arI 103 tr)) (k_xt : hAt h xt = some (arI 240 tx)) (n_rd_xt : rd ≠ xt) (hp : p_X5_puts m tr tx place lo hi) : Cd G 4 yX5_puts cX5_puts 5 (some .boolean) [.ref o, .int place, .int lo, .int hi] h (some (.int (f_X5_puts m tr tx place lo hi).1)) (hSet (hSet h o (moC nw rd sd pa xt (f_X5_puts m tr tx place lo hi).2.1)) rd (arI 103 (f_X5_puts m tr tx place lo hi).2.2)) := by
  have n_o_rd : o ≠ rd := hne_k k_o k_rd rfl
  have n_xt_o : xt ≠ o := hne_k k_xt k_o rfl
  have n_xt_rd : xt ≠ rd := Ne.symm n_rd_xt
  refine Ct.of (by decide) (by rfl) ?_
  refine Wp.eqs (L' := [(0, .ref o), (1, .int place), (2, .int lo), (3, .int hi)]) (st' := []) rfl rfl ?_
  refine Wp.eqh (h' := (hSet (hSet h o (moC nw rd sd pa xt m)) rd (arI 103 tr))) (by rw [hSet_self k_o, hSet_self k_rd]) ?_
  obtain ⟨R, er⟩ : ∃ R, R = f_X5_puts m tr tx place lo hi := ⟨_, rfl⟩
  rw [← er]
  unfold f_X5_puts at er
  unfold p_X5_puts at hp
  refine x_aload_n (pc := 0) dX5_puts_0 rfl ?_
  refine x_iload_n (pc := 1) dX5_puts_1 rfl ?_
  refine x_iload_n (pc := 2) dX5_puts_2 rfl ?_
  obtain ⟨q3, hp⟩ := hp
  refine x_cV2i (pc := 3) dX5_puts_3 xl_X5_74 xv_X5_takesNumber (hAt_n n_o_rd hAt_same) rfl (C_X5_takesNumber G _ o nw rd sd pa xt m tx lo hi (hAt_n n_o_rd hAt_same) (hAt_n n_xt_rd (hAt_n n_xt_o k_xt)) q3) rfl rfl rfl ?_
  obtain ⟨F1, eF1⟩ : ∃ F, F = f_X5_takesNumber m tx lo hi := ⟨_, rfl⟩
  rw [← eF1]
  try rw [← eF1] at er
  try rw [← eF1] at hp
  refine Wp.eqh (h' := (hSet (hSet h o (moC nw rd sd pa xt F1.2)) rd (arI 103 tr))) (hSet_sw1 n_o_rd) ?_
  refine x_istore (pc := 6) (L' := [(4, .int F1.1), (0, .ref o), (1, .int place), (2, .int lo), (3, .int hi)]) dX5_puts_6 rfl rfl ?_
  refine x_aload_n (pc := 8) dX5_puts_8 rfl ?_
  refine x_getf (pc := 9) (v := .ref rd) dX5_puts_9 xf_X5_13 (hAt_n n_o_rd hAt_same) rfl ?_
  refine x_iload_n (pc := 12) dX5_puts_12 rfl ?_
  refine x_iload (pc := 13) dX5_puts_13 rfl ?_
  refine x_bipush (pc := 15) (v := (-4 : Int32)) dX5_puts_15 (by decide) ?_
  obtain ⟨qr17, hp⟩ := hp
  obtain ⟨F2, eF2⟩ : ∃ F, F = g_X5_puts_17 tr place F1.1 := ⟨_, rfl⟩
  try rw [← eF2] at er
  try rw [← eF2] at hp
  refine x_mrg (pc' := 31) (L' := [(4, .int F1.1), (0, .ref o), (1, .int place), (2, .int lo), (3, .int hi)]) (st' := [.int F2, .int place, .ref rd]) (h' := (hSet (hSet h o (moC nw rd sd pa xt F1.2)) rd (arI 103 tr))) (fun J => ?_) ?_
  · unfold g_X5_puts_17 at eF2
    unfold h_X5_puts_17 at qr17
    try rw [← eF1] at eF2
    try rw [← eF1] at qr17
    refine x_icmp_ne (pc := 17) (tgt := 29) dX5_puts_17 (by decide) (fun (c2 : ¬ (F1.1 = (-4 : Int32))) => ?_) (fun (c2 : F1.1 = (-4 : Int32)) => ?_)
    · rw [if_neg c2] at eF2
      replace qr17 := qr17.2 c2
      refine x_iload (pc := 29) dX5_puts_29 rfl ?_
      subst eF2
      exact J
    · rw [if_pos c2] at eF2
      replace qr17 := qr17.1 c2
      refine x_aload_n (pc := 20) dX5_puts_20 rfl ?_
      refine x_getf (pc := 21) (v := .ref rd) dX5_puts_21 xf_X5_13 (hAt_n n_o_rd hAt_same) rfl ?_
      refine x_iload_n (pc := 24) dX5_puts_24 rfl ?_
      obtain ⟨q25, qr17⟩ := qr17
      refine x_iald (pc := 25) dX5_puts_25 hAt_same q25 (j := (place.toNatClampNeg)) rfl ?_
      refine x_goto (pc := 26) (tgt := 31) dX5_puts_26 (by decide) ?_
      subst eF2
      exact J
  obtain ⟨q31, hp⟩ := hp
  refine x_iast (pc := 31) (e' := arI 103 (upd tr (place.toNatClampNeg) F2)) dX5_puts_31 hAt_same q31 (j := (place.toNatClampNeg)) rfl rfl ?_
  refine Wp.eqh (h' := (hSet (hSet h o (moC nw rd sd pa xt F1.2)) rd (arI 103 (upd tr (place.toNatClampNeg) F2)))) (hSet_set) ?_
  refine x_iload (pc := 32) dX5_puts_32 rfl ?_
  refine x_bipush (pc := 34) (v := (-4 : Int32)) dX5_puts_34 (by decide) ?_
  refine x_mrg (pc' := 44) (L' := [(4, .int F1.1), (0, .ref o), (1, .int place), (2, .int lo), (3, .int hi)]) (st' := [.int (if F1.1 = (-4 : Int32) then (0 : Int32) else (1 : Int32))]) (h' := (hSet (hSet h o (moC nw rd sd pa xt F1.2)) rd (arI 103 (upd tr (place.toNatClampNeg) F2)))) (fun J => ?_) ?_
  · refine x_icmp_eq (pc := 36) (tgt := 43) dX5_puts_36 (by decide) (fun (c3 : F1.1 = (-4 : Int32)) => ?_) (fun (c3 : ¬ (F1.1 = (-4 : Int32))) => ?_)
    · refine x_iconst (pc := 43) (v := (0 : Int32)) dX5_puts_43 (by decide) ?_
      rw [if_pos c3] at J
      exact J
    · refine x_iconst (pc := 39) (v := (1 : Int32)) dX5_puts_39 (by decide) ?_
      refine x_goto (pc := 40) (tgt := 44) dX5_puts_40 (by decide) ?_
      rw [if_neg c3] at J
      exact J
  subst er
  exact x_iret (pc := 44) dX5_puts_44 rfl (xb_nar (xB_ite xB0 xB1)) rfl rfl ⟨rfl, rfl⟩
theorem B_X5_puts (m tr tx : Nat → Int32) (place lo hi : Int32) : xB (f_X5_puts m tr tx place lo hi).1 := by
  unfold f_X5_puts
  exact (xB_fst (xB_ite xB0 xB1))

def g_X5_takesHop_37 (v2 : Int64) (y0 : Int32) : Int32 := (if y0 = 0 then (0 : Int32) else (if (lg_cmp v2 (24722887 : Int64)) = 0 then (1 : Int32) else (if (lg_cmp v2 (15748 : Int64)) = 0 then (2 : Int32) else (if (lg_cmp v2 (647370196 : Int64)) = 0 then (3 : Int32) else (-4 : Int32)))))
def g_X5_takesHop_88 (tr : (Nat → Int32)) (v4 : Int32) (v1 : Int32) (x_o : (Nat → Int32)) : Int32 × (Nat → Int32) := (if v4 = (-4 : Int32) then ((0 : Int32), tr) else (if (f_X5_addsHop x_o tr v1 v4).1 = 0 then ((0 : Int32), (f_X5_addsHop x_o tr v1 v4).2) else ((1 : Int32), (f_X5_addsHop x_o tr v1 v4).2)))
def h_X5_takesHop_88 (tr : (Nat → Int32)) (v4 : Int32) (v1 : Int32) (x_o : (Nat → Int32)) : Prop := ((v4 = (-4 : Int32) → True) ∧ (¬ (v4 = (-4 : Int32)) → (p_X5_addsHop x_o tr v1 v4 ∧ (((f_X5_addsHop x_o tr v1 v4).1 = 0 → True) ∧ (¬ ((f_X5_addsHop x_o tr v1 v4).1 = 0) → True)))))
theorem Bg_X5_takesHop_88 (tr : (Nat → Int32)) (v4 : Int32) (v1 : Int32) (x_o : (Nat → Int32)) : xB (g_X5_takesHop_88 tr v4 v1 x_o).1 := by
  unfold g_X5_takesHop_88
  exact (xB_ite1 (xB_fst xB0) (xB_ite1 (xB_fst xB0) (xB_fst xB1)))
def f_X5_takesHop (m tr tx : Nat → Int32) : Int32 × (Nat → Int32) × (Nat → Int32) := (if (f_X5_takesNumber m tx (20 : Int32) (999 : Int32)).1 = (-4 : Int32) then ((0 : Int32), (f_X5_takesNumber m tx (20 : Int32) (999 : Int32)).2, tr) else (if (f_X5_takesSign (f_X5_takesNumber m tx (20 : Int32) (999 : Int32)).2 tx (32 : Int32)).1 = 0 then ((0 : Int32), (f_X5_takesSign (f_X5_takesNumber m tx (20 : Int32) (999 : Int32)).2 tx (32 : Int32)).2, tr) else ((g_X5_takesHop_88 tr (g_X5_takesHop_37 (f_X5_takesWord (f_X5_takesSign (f_X5_takesNumber m tx (20 : Int32) (999 : Int32)).2 tx (32 : Int32)).2 tx).1 (lg_cmp (f_X5_takesWord (f_X5_takesSign (f_X5_takesNumber m tx (20 : Int32) (999 : Int32)).2 tx (32 : Int32)).2 tx).1 (660876 : Int64))) (f_X5_takesNumber m tx (20 : Int32) (999 : Int32)).1 (f_X5_takesWord (f_X5_takesSign (f_X5_takesNumber m tx (20 : Int32) (999 : Int32)).2 tx (32 : Int32)).2 tx).2).1, (f_X5_takesWord (f_X5_takesSign (f_X5_takesNumber m tx (20 : Int32) (999 : Int32)).2 tx (32 : Int32)).2 tx).2, (g_X5_takesHop_88 tr (g_X5_takesHop_37 (f_X5_takesWord (f_X5_takesSign (f_X5_takesNumber m tx (20 : Int32) (999 : Int32)).2 tx (32 : Int32)).2 tx).1 (lg_cmp (f_X5_takesWord (f_X5_takesSign (f_X5_takesNumber m tx (20 : Int32) (999 : Int32)).2 tx (32 : Int32)).2 tx).1 (660876 : Int64))) (f_X5_takesNumber m tx (20 : Int32) (999 : Int32)).1 (f_X5_takesWord (f_X5_takesSign (f_X5_takesNumber m tx (20 : Int32) (999 : Int32)).2 tx (32 : Int32)).2 tx).2).2)))
def p_X5_takesHop (m tr tx : Nat → Int32) : Prop := (p_X5_takesNumber m tx (20 : Int32) (999 : Int32) ∧ (((f_X5_takesNumber m tx (20 : Int32) (999 : Int32)).1 = (-4 : Int32) → True) ∧ (¬ ((f_X5_takesNumber m tx (20 : Int32) (999 : Int32)).1 = (-4 : Int32)) → (p_X5_takesSign (f_X5_takesNumber m tx (20 : Int32) (999 : Int32)).2 tx (32 : Int32) ∧ (((f_X5_takesSign (f_X5_takesNumber m tx (20 : Int32) (999 : Int32)).2 tx (32 : Int32)).1 = 0 → True) ∧ (¬ ((f_X5_takesSign (f_X5_takesNumber m tx (20 : Int32) (999 : Int32)).2 tx (32 : Int32)).1 = 0) → (p_X5_takesWord (f_X5_takesSign (f_X5_takesNumber m tx (20 : Int32) (999 : Int32)).2 tx (32 : Int32)).2 tx ∧ ((h_X5_takesHop_88 tr (g_X5_takesHop_37 (f_X5_takesWord (f_X5_takesSign (f_X5_takesNumber m tx (20 : Int32) (999 : Int32)).2 tx (32 : Int32)).2 tx).1 (lg_cmp (f_X5_takesWord (f_X5_takesSign (f_X5_takesNumber m tx (20 : Int32) (999 : Int32)).2 tx (32 : Int32)).2 tx).1 (660876 : Int64))) (f_X5_takesNumber m tx (20 : Int32) (999 : Int32)).1 (f_X5_takesWord (f_X5_takesSign (f_X5_takesNumber m tx (20 : Int32) (999 : Int32)).2 tx (32 : Int32)).2 tx).2) ∧ True))))))))
set_option maxRecDepth 100000 in
set_option maxHeartbeats 4000000 in
theorem C_X5_takesHop (G : xG) (h : xH) (o nw rd sd pa xt : Nat) (m tr tx : Nat → Int32) (k_o : hAt h o = some (moC nw rd sd pa xt m)) (k_rd : hAt h rd = some (arI 103 tr)) (k_xt : hAt h xt = some (arI 240 tx)) (n_rd_xt : rd ≠ xt) (hp : p_X5_takesHop m tr tx) : Cd G 4 yX5_takesHop cX5_takesHop 5 (some .boolean) [.ref o] h (some (.int (f_X5_takesHop m tr tx).1)) (hSet (hSet h o (moC nw rd sd pa xt (f_X5_takesHop m tr tx).2.1)) rd (arI 103 (f_X5_takesHop m tr tx).2.2)) := by
  have n_o_rd : o ≠ rd := hne_k k_o k_rd rfl
  have n_xt_o : xt ≠ o := hne_k k_xt k_o rfl
  have n_xt_rd : xt ≠ rd := Ne.symm n_rd_xt
  refine Ct.of (by decide) (by rfl) ?_
  refine Wp.eqs (L' := [(0, .ref o)]) (st' := []) rfl rfl ?_
  refine Wp.eqh (h' := (hSet (hSet h o (moC nw rd sd pa xt m)) rd (arI 103 tr))) (by rw [hSet_self k_o, hSet_self k_rd]) ?_
  obtain ⟨R, er⟩ : ∃ R, R = f_X5_takesHop m tr tx := ⟨_, rfl⟩
  rw [← er]
  unfold f_X5_takesHop at er
  unfold p_X5_takesHop at hp
  refine x_aload_n (pc := 0) dX5_takesHop_0 rfl ?_
  refine x_bipush (pc := 1) (v := (20 : Int32)) dX5_takesHop_1 (by decide) ?_
  refine x_sipush (pc := 3) (v := (999 : Int32)) dX5_takesHop_3 (by decide) ?_
  obtain ⟨q6, hp⟩ := hp
  refine x_cV2i (pc := 6) dX5_takesHop_6 xl_X5_74 xv_X5_takesNumber (hAt_n n_o_rd hAt_same) rfl (C_X5_takesNumber G _ o nw rd sd pa xt m tx (20 : Int32) (999 : Int32) (hAt_n n_o_rd hAt_same) (hAt_n n_xt_rd (hAt_n n_xt_o k_xt)) q6) rfl rfl rfl ?_
  obtain ⟨F1, eF1⟩ : ∃ F, F = f_X5_takesNumber m tx (20 : Int32) (999 : Int32) := ⟨_, rfl⟩
  rw [← eF1]
  try rw [← eF1] at er
  try rw [← eF1] at hp
  refine Wp.eqh (h' := (hSet (hSet h o (moC nw rd sd pa xt F1.2)) rd (arI 103 tr))) (hSet_sw1 n_o_rd) ?_
  refine x_istore_n (pc := 9) (L' := [(1, .int F1.1), (0, .ref o)]) dX5_takesHop_9 rfl rfl ?_
  refine x_iload_n (pc := 10) dX5_takesHop_10 rfl ?_
  refine x_bipush (pc := 11) (v := (-4 : Int32)) dX5_takesHop_11 (by decide) ?_
  refine x_icmp_eq (pc := 13) (tgt := 25) dX5_takesHop_13 (by decide) (fun (c1 : F1.1 = (-4 : Int32)) => ?_) (fun (c1 : ¬ (F1.1 = (-4 : Int32))) => ?_)
  · rw [if_pos c1] at er
    replace hp := hp.1 c1
    refine x_iconst (pc := 25) (v := (0 : Int32)) dX5_takesHop_25 (by decide) ?_
    subst er
    exact x_iret (pc := 26) dX5_takesHop_26 rfl rfl rfl rfl ⟨rfl, rfl⟩
  · rw [if_neg c1] at er
    replace hp := hp.2 c1
    refine x_aload_n (pc := 16) dX5_takesHop_16 rfl ?_
    refine x_bipush (pc := 17) (v := (32 : Int32)) dX5_takesHop_17 (by decide) ?_
    obtain ⟨q19, hp⟩ := hp
    refine x_cV1i (pc := 19) dX5_takesHop_19 xl_X5_70 xv_X5_takesSign (hAt_n n_o_rd hAt_same) rfl (C_X5_takesSign G _ o nw rd sd pa xt F1.2 tx (32 : Int32) (hAt_n n_o_rd hAt_same) (hAt_n n_xt_rd (hAt_n n_xt_o k_xt)) q19) rfl rfl rfl ?_
    obtain ⟨F2, eF2⟩ : ∃ F, F = f_X5_takesSign F1.2 tx (32 : Int32) := ⟨_, rfl⟩
    rw [← eF2]
    try rw [← eF2] at er
    try rw [← eF2] at hp
    have bF2_1 : xB F2.1 := by rw [eF2]; exact (B_X5_takesSign _ _ _)
    refine Wp.eqh (h' := (hSet (hSet h o (moC nw rd sd pa xt F2.2)) rd (arI 103 tr))) (hSet_sw1 n_o_rd) ?_
    refine x_if_ne (pc := 22) (tgt := 27) dX5_takesHop_22 (by decide) (fun (c2 : ¬ (F2.1 = 0)) => ?_) (fun (c2 : F2.1 = 0) => ?_)
    · rw [if_neg c2] at er
      replace hp := hp.2 c2
      refine x_aload_n (pc := 27) dX5_takesHop_27 rfl ?_
      obtain ⟨q28, hp⟩ := hp
      refine x_cV0l (pc := 28) dX5_takesHop_28 xl_X5_77 xv_X5_takesWord (hAt_n n_o_rd hAt_same) rfl (C_X5_takesWord G _ o nw rd sd pa xt F2.2 tx (hAt_n n_o_rd hAt_same) (hAt_n n_xt_rd (hAt_n n_xt_o k_xt)) q28) rfl rfl rfl ?_
      obtain ⟨F3, eF3⟩ : ∃ F, F = f_X5_takesWord F2.2 tx := ⟨_, rfl⟩
      rw [← eF3]
      try rw [← eF3] at er
      try rw [← eF3] at hp
      refine Wp.eqh (h' := (hSet (hSet h o (moC nw rd sd pa xt F3.2)) rd (arI 103 tr))) (hSet_sw1 n_o_rd) ?_
      refine x_lstore_n (pc := 31) (L' := [(2, .long F3.1), (1, .int F1.1), (0, .ref o)]) dX5_takesHop_31 rfl rfl ?_
      refine x_lload_n (pc := 32) dX5_takesHop_32 rfl ?_
      refine x_ldc2 (pc := 33) (v := (660876 : Int64)) dX5_takesHop_33 xk_X5_81 ?_
      refine x_lcmp (pc := 36) dX5_takesHop_36 ?_
      obtain ⟨F4, eF4⟩ : ∃ F, F = g_X5_takesHop_37 F3.1 (lg_cmp F3.1 (660876 : Int64)) := ⟨_, rfl⟩
      try rw [← eF4] at er
      try rw [← eF4] at hp
      refine x_mrg (pc' := 82) (L' := [(2, .long F3.1), (1, .int F1.1), (0, .ref o)]) (st' := [.int F4]) (h' := (hSet (hSet h o (moC nw rd sd pa xt F3.2)) rd (arI 103 tr))) (fun J => ?_) ?_
      · unfold g_X5_takesHop_37 at eF4
        try rw [← eF1] at eF4
        try rw [← eF2] at eF4
        try rw [← eF3] at eF4
        refine x_if_ne (pc := 37) (tgt := 44) dX5_takesHop_37 (by decide) (fun (c7 : ¬ ((lg_cmp F3.1 (660876 : Int64)) = 0)) => ?_) (fun (c7 : (lg_cmp F3.1 (660876 : Int64)) = 0) => ?_)
        · rw [if_neg c7] at eF4
          refine x_lload_n (pc := 44) dX5_takesHop_44 rfl ?_
          refine x_ldc2 (pc := 45) (v := (24722887 : Int64)) dX5_takesHop_45 xk_X5_83 ?_
          refine x_lcmp (pc := 48) dX5_takesHop_48 ?_
          refine x_if_ne (pc := 49) (tgt := 56) dX5_takesHop_49 (by decide) (fun (c8 : ¬ ((lg_cmp F3.1 (24722887 : Int64)) = 0)) => ?_) (fun (c8 : (lg_cmp F3.1 (24722887 : Int64)) = 0) => ?_)
          · rw [if_neg c8] at eF4
            refine x_lload_n (pc := 56) dX5_takesHop_56 rfl ?_
            refine x_ldc2 (pc := 57) (v := (15748 : Int64)) dX5_takesHop_57 xk_X5_85 ?_
            refine x_lcmp (pc := 60) dX5_takesHop_60 ?_
            refine x_if_ne (pc := 61) (tgt := 68) dX5_takesHop_61 (by decide) (fun (c9 : ¬ ((lg_cmp F3.1 (15748 : Int64)) = 0)) => ?_) (fun (c9 : (lg_cmp F3.1 (15748 : Int64)) = 0) => ?_)
            · rw [if_neg c9] at eF4
              refine x_lload_n (pc := 68) dX5_takesHop_68 rfl ?_
              refine x_ldc2 (pc := 69) (v := (647370196 : Int64)) dX5_takesHop_69 xk_X5_87 ?_
              refine x_lcmp (pc := 72) dX5_takesHop_72 ?_
              refine x_if_ne (pc := 73) (tgt := 80) dX5_takesHop_73 (by decide) (fun (c10 : ¬ ((lg_cmp F3.1 (647370196 : Int64)) = 0)) => ?_) (fun (c10 : (lg_cmp F3.1 (647370196 : Int64)) = 0) => ?_)
              · rw [if_neg c10] at eF4
                refine x_bipush (pc := 80) (v := (-4 : Int32)) dX5_takesHop_80 (by decide) ?_
                subst eF4
                exact J
              · rw [if_pos c10] at eF4
                refine x_iconst (pc := 76) (v := (3 : Int32)) dX5_takesHop_76 (by decide) ?_
                refine x_goto (pc := 77) (tgt := 82) dX5_takesHop_77 (by decide) ?_
                subst eF4
                exact J
            · rw [if_pos c9] at eF4
              refine x_iconst (pc := 64) (v := (2 : Int32)) dX5_takesHop_64 (by decide) ?_
              refine x_goto (pc := 65) (tgt := 82) dX5_takesHop_65 (by decide) ?_
              subst eF4
              exact J
          · rw [if_pos c8] at eF4
            refine x_iconst (pc := 52) (v := (1 : Int32)) dX5_takesHop_52 (by decide) ?_
            refine x_goto (pc := 53) (tgt := 82) dX5_takesHop_53 (by decide) ?_
            subst eF4
            exact J
        · rw [if_pos c7] at eF4
          refine x_iconst (pc := 40) (v := (0 : Int32)) dX5_takesHop_40 (by decide) ?_
          refine x_goto (pc := 41) (tgt := 82) dX5_takesHop_41 (by decide) ?_
          subst eF4
          exact J
      refine x_istore (pc := 82) (L' := [(4, .int F4), (2, .long F3.1), (1, .int F1.1), (0, .ref o)]) dX5_takesHop_82 rfl rfl ?_
      refine x_iload (pc := 84) dX5_takesHop_84 rfl ?_
      refine x_bipush (pc := 86) (v := (-4 : Int32)) dX5_takesHop_86 (by decide) ?_
      obtain ⟨qr88, hp⟩ := hp
      obtain ⟨F7, eF7⟩ : ∃ F, F = g_X5_takesHop_88 tr F4 F1.1 F3.2 := ⟨_, rfl⟩
      try rw [← eF7] at er
      try rw [← eF7] at hp
      have bF7_1 : xB F7.1 := by rw [eF7]; exact (Bg_X5_takesHop_88 _ _ _ _)
      refine x_mrg (pc' := 106) (L' := [(4, .int F4), (2, .long F3.1), (1, .int F1.1), (0, .ref o)]) (st' := [.int F7.1]) (h' := (hSet (hSet h o (moC nw rd sd pa xt F3.2)) rd (arI 103 F7.2))) (fun J => ?_) ?_
      · unfold g_X5_takesHop_88 at eF7
        unfold h_X5_takesHop_88 at qr88
        try rw [← eF1] at eF7
        try rw [← eF1] at qr88
        try rw [← eF2] at eF7
        try rw [← eF2] at qr88
        try rw [← eF3] at eF7
        try rw [← eF3] at qr88
        refine x_icmp_eq (pc := 88) (tgt := 105) dX5_takesHop_88 (by decide) (fun (c13 : F4 = (-4 : Int32)) => ?_) (fun (c13 : ¬ (F4 = (-4 : Int32))) => ?_)
        · rw [if_pos c13] at eF7
          replace qr88 := qr88.1 c13
          refine x_iconst (pc := 105) (v := (0 : Int32)) dX5_takesHop_105 (by decide) ?_
          subst eF7
          exact J
        · rw [if_neg c13] at eF7
          replace qr88 := qr88.2 c13
          refine x_aload_n (pc := 91) dX5_takesHop_91 rfl ?_
          refine x_iload_n (pc := 92) dX5_takesHop_92 rfl ?_
          refine x_iload (pc := 93) dX5_takesHop_93 rfl ?_
          obtain ⟨q95, qr88⟩ := qr88
          refine x_cV2i (pc := 95) dX5_takesHop_95 xl_X5_32 xv_X5_addsHop (hAt_n n_o_rd hAt_same) rfl (C_X5_addsHop G _ o nw rd sd pa xt F3.2 tr F1.1 F4 (hAt_n n_o_rd hAt_same) hAt_same q95) rfl rfl rfl ?_
          obtain ⟨F6, eF6⟩ : ∃ F, F = f_X5_addsHop F3.2 tr F1.1 F4 := ⟨_, rfl⟩
          rw [← eF6]
          try rw [← eF6] at eF7
          try rw [← eF6] at qr88
          have bF6_1 : xB F6.1 := by rw [eF6]; exact (B_X5_addsHop _ _ _ _)
          refine Wp.eqh (h' := (hSet (hSet h o (moC nw rd sd pa xt F3.2)) rd (arI 103 F6.2))) (hSet_set) ?_
          refine x_if_eq (pc := 98) (tgt := 105) dX5_takesHop_98 (by decide) (fun (c14 : F6.1 = 0) => ?_) (fun (c14 : ¬ (F6.1 = 0)) => ?_)
          · rw [if_pos c14] at eF7
            replace qr88 := qr88.1 c14
            refine x_iconst (pc := 105) (v := (0 : Int32)) dX5_takesHop_105 (by decide) ?_
            subst eF7
            exact J
          · rw [if_neg c14] at eF7
            replace qr88 := qr88.2 c14
            refine x_iconst (pc := 101) (v := (1 : Int32)) dX5_takesHop_101 (by decide) ?_
            refine x_goto (pc := 102) (tgt := 106) dX5_takesHop_102 (by decide) ?_
            subst eF7
            exact J
      subst er
      exact x_iret (pc := 106) dX5_takesHop_106 rfl (xb_nar bF7_1) rfl rfl ⟨rfl, rfl⟩
    · rw [if_pos c2] at er
      replace hp := hp.1 c2
      refine x_iconst (pc := 25) (v := (0 : Int32)) dX5_takesHop_25 (by decide) ?_
      subst er
      exact x_iret (pc := 26) dX5_takesHop_26 rfl rfl rfl rfl ⟨rfl, rfl⟩
theorem B_X5_takesHop (m tr tx : Nat → Int32) : xB (f_X5_takesHop m tr tx).1 := by
  unfold f_X5_takesHop
  exact (xB_ite1 (xB_fst xB0) (xB_ite1 (xB_fst xB0) (xB_fst (Bg_X5_takesHop_88 _ _ _ _))))

def g_X5_takesBelief_21 (v1 : Int64) (y0 : Int32) : Int32 := (if y0 = 0 then (0 : Int32) else (if (lg_cmp v1 (3495013540 : Int64)) = 0 then (1 : Int32) else (if (lg_cmp v1 (474565 : Int64)) = 0 then (2 : Int32) else (-4 : Int32))))
def g_X5_takesBelief_63 (tr : (Nat → Int32)) (v3 : Int32) : Int32 := (if v3 = (-4 : Int32) then (tr 5) else v3)
def f_X5_takesBelief (m tr tx : Nat → Int32) : Int32 × (Nat → Int32) × (Nat → Int32) := (if (f_X5_takesSign m tx (32 : Int32)).1 = 0 then ((0 : Int32), (f_X5_takesSign m tx (32 : Int32)).2, tr) else ((if (g_X5_takesBelief_21 (f_X5_takesWord (f_X5_takesSign m tx (32 : Int32)).2 tx).1 (lg_cmp (f_X5_takesWord (f_X5_takesSign m tx (32 : Int32)).2 tx).1 (1420 : Int64))) = (-4 : Int32) then (0 : Int32) else (1 : Int32)), (f_X5_takesWord (f_X5_takesSign m tx (32 : Int32)).2 tx).2, (upd tr 5 (g_X5_takesBelief_63 tr (g_X5_takesBelief_21 (f_X5_takesWord (f_X5_takesSign m tx (32 : Int32)).2 tx).1 (lg_cmp (f_X5_takesWord (f_X5_takesSign m tx (32 : Int32)).2 tx).1 (1420 : Int64)))))))
def p_X5_takesBelief (m tr tx : Nat → Int32) : Prop := (p_X5_takesSign m tx (32 : Int32) ∧ (((f_X5_takesSign m tx (32 : Int32)).1 = 0 → True) ∧ (¬ ((f_X5_takesSign m tx (32 : Int32)).1 = 0) → (p_X5_takesWord (f_X5_takesSign m tx (32 : Int32)).2 tx ∧ True))))
set_option maxRecDepth 100000 in
set_option maxHeartbeats 4000000 in
theorem C_X5_takesBelief (G : xG) (h : xH) (o nw rd sd pa xt : Nat) (m tr tx : Nat → Int32) (k_o : hAt h o = some (moC nw rd sd pa xt m)) (k_rd : hAt h rd = some (arI 103 tr)) (k_xt : hAt h xt = some (arI 240 tx)) (n_rd_xt : rd ≠ xt) (hp : p_X5_takesBelief m tr tx) : Cd G 3 yX5_takesBelief cX5_takesBelief 4 (some .boolean) [.ref o] h (some (.int (f_X5_takesBelief m tr tx).1)) (hSet (hSet h o (moC nw rd sd pa xt (f_X5_takesBelief m tr tx).2.1)) rd (arI 103 (f_X5_takesBelief m tr tx).2.2)) := by
  have n_o_rd : o ≠ rd := hne_k k_o k_rd rfl
  have n_xt_o : xt ≠ o := hne_k k_xt k_o rfl
  have n_xt_rd : xt ≠ rd := Ne.symm n_rd_xt
  refine Ct.of (by decide) (by rfl) ?_
  refine Wp.eqs (L' := [(0, .ref o)]) (st' := []) rfl rfl ?_
  refine Wp.eqh (h' := (hSet (hSet h o (moC nw rd sd pa xt m)) rd (arI 103 tr))) (by rw [hSet_self k_o, hSet_self k_rd]) ?_
  obtain ⟨R, er⟩ : ∃ R, R = f_X5_takesBelief m tr tx := ⟨_, rfl⟩
  rw [← er]
  unfold f_X5_takesBelief at er
  unfold p_X5_takesBelief at hp
  refine x_aload_n (pc := 0) dX5_takesBelief_0 rfl ?_
  refine x_bipush (pc := 1) (v := (32 : Int32)) dX5_takesBelief_1 (by decide) ?_
  obtain ⟨q3, hp⟩ := hp
  refine x_cV1i (pc := 3) dX5_takesBelief_3 xl_X5_70 xv_X5_takesSign (hAt_n n_o_rd hAt_same) rfl (C_X5_takesSign G _ o nw rd sd pa xt m tx (32 : Int32) (hAt_n n_o_rd hAt_same) (hAt_n n_xt_rd (hAt_n n_xt_o k_xt)) q3) rfl rfl rfl ?_
  obtain ⟨F1, eF1⟩ : ∃ F, F = f_X5_takesSign m tx (32 : Int32) := ⟨_, rfl⟩
  rw [← eF1]
  try rw [← eF1] at er
  try rw [← eF1] at hp
  have bF1_1 : xB F1.1 := by rw [eF1]; exact (B_X5_takesSign _ _ _)
  refine Wp.eqh (h' := (hSet (hSet h o (moC nw rd sd pa xt F1.2)) rd (arI 103 tr))) (hSet_sw1 n_o_rd) ?_
  refine x_if_ne (pc := 6) (tgt := 11) dX5_takesBelief_6 (by decide) (fun (c1 : ¬ (F1.1 = 0)) => ?_) (fun (c1 : F1.1 = 0) => ?_)
  · rw [if_neg c1] at er
    replace hp := hp.2 c1
    refine x_aload_n (pc := 11) dX5_takesBelief_11 rfl ?_
    obtain ⟨q12, hp⟩ := hp
    refine x_cV0l (pc := 12) dX5_takesBelief_12 xl_X5_77 xv_X5_takesWord (hAt_n n_o_rd hAt_same) rfl (C_X5_takesWord G _ o nw rd sd pa xt F1.2 tx (hAt_n n_o_rd hAt_same) (hAt_n n_xt_rd (hAt_n n_xt_o k_xt)) q12) rfl rfl rfl ?_
    obtain ⟨F2, eF2⟩ : ∃ F, F = f_X5_takesWord F1.2 tx := ⟨_, rfl⟩
    rw [← eF2]
    try rw [← eF2] at er
    try rw [← eF2] at hp
    refine Wp.eqh (h' := (hSet (hSet h o (moC nw rd sd pa xt F2.2)) rd (arI 103 tr))) (hSet_sw1 n_o_rd) ?_
    refine x_lstore_n (pc := 15) (L' := [(1, .long F2.1), (0, .ref o)]) dX5_takesBelief_15 rfl rfl ?_
    refine x_lload_n (pc := 16) dX5_takesBelief_16 rfl ?_
    refine x_ldc2 (pc := 17) (v := (1420 : Int64)) dX5_takesBelief_17 xk_X5_89 ?_
    refine x_lcmp (pc := 20) dX5_takesBelief_20 ?_
    obtain ⟨F3, eF3⟩ : ∃ F, F = g_X5_takesBelief_21 F2.1 (lg_cmp F2.1 (1420 : Int64)) := ⟨_, rfl⟩
    try rw [← eF3] at er
    try rw [← eF3] at hp
    refine x_mrg (pc' := 54) (L' := [(1, .long F2.1), (0, .ref o)]) (st' := [.int F3]) (h' := (hSet (hSet h o (moC nw rd sd pa xt F2.2)) rd (arI 103 tr))) (fun J => ?_) ?_
    · unfold g_X5_takesBelief_21 at eF3
      try rw [← eF1] at eF3
      try rw [← eF2] at eF3
      refine x_if_ne (pc := 21) (tgt := 28) dX5_takesBelief_21 (by decide) (fun (c5 : ¬ ((lg_cmp F2.1 (1420 : Int64)) = 0)) => ?_) (fun (c5 : (lg_cmp F2.1 (1420 : Int64)) = 0) => ?_)
      · rw [if_neg c5] at eF3
        refine x_lload_n (pc := 28) dX5_takesBelief_28 rfl ?_
        refine x_ldc2 (pc := 29) (v := (3495013540 : Int64)) dX5_takesBelief_29 xk_X5_91 ?_
        refine x_lcmp (pc := 32) dX5_takesBelief_32 ?_
        refine x_if_ne (pc := 33) (tgt := 40) dX5_takesBelief_33 (by decide) (fun (c6 : ¬ ((lg_cmp F2.1 (3495013540 : Int64)) = 0)) => ?_) (fun (c6 : (lg_cmp F2.1 (3495013540 : Int64)) = 0) => ?_)
        · rw [if_neg c6] at eF3
          refine x_lload_n (pc := 40) dX5_takesBelief_40 rfl ?_
          refine x_ldc2 (pc := 41) (v := (474565 : Int64)) dX5_takesBelief_41 xk_X5_93 ?_
          refine x_lcmp (pc := 44) dX5_takesBelief_44 ?_
          refine x_if_ne (pc := 45) (tgt := 52) dX5_takesBelief_45 (by decide) (fun (c7 : ¬ ((lg_cmp F2.1 (474565 : Int64)) = 0)) => ?_) (fun (c7 : (lg_cmp F2.1 (474565 : Int64)) = 0) => ?_)
          · rw [if_neg c7] at eF3
            refine x_bipush (pc := 52) (v := (-4 : Int32)) dX5_takesBelief_52 (by decide) ?_
            subst eF3
            exact J
          · rw [if_pos c7] at eF3
            refine x_iconst (pc := 48) (v := (2 : Int32)) dX5_takesBelief_48 (by decide) ?_
            refine x_goto (pc := 49) (tgt := 54) dX5_takesBelief_49 (by decide) ?_
            subst eF3
            exact J
        · rw [if_pos c6] at eF3
          refine x_iconst (pc := 36) (v := (1 : Int32)) dX5_takesBelief_36 (by decide) ?_
          refine x_goto (pc := 37) (tgt := 54) dX5_takesBelief_37 (by decide) ?_
          subst eF3
          exact J
      · rw [if_pos c5] at eF3
        refine x_iconst (pc := 24) (v := (0 : Int32)) dX5_takesBelief_24 (by decide) ?_
        refine x_goto (pc := 25) (tgt := 54) dX5_takesBelief_25 (by decide) ?_
        subst eF3
        exact J
    refine x_istore_n (pc := 54) (L' := [(3, .int F3), (1, .long F2.1), (0, .ref o)]) dX5_takesBelief_54 rfl rfl ?_
    refine x_aload_n (pc := 55) dX5_takesBelief_55 rfl ?_
    refine x_getf (pc := 56) (v := .ref rd) dX5_takesBelief_56 xf_X5_13 (hAt_n n_o_rd hAt_same) rfl ?_
    refine x_iconst (pc := 59) (v := (5 : Int32)) dX5_takesBelief_59 (by decide) ?_
    refine x_iload_n (pc := 60) dX5_takesBelief_60 rfl ?_
    refine x_bipush (pc := 61) (v := (-4 : Int32)) dX5_takesBelief_61 (by decide) ?_
    obtain ⟨F4, eF4⟩ : ∃ F, F = g_X5_takesBelief_63 tr F3 := ⟨_, rfl⟩
    try rw [← eF4] at er
    try rw [← eF4] at hp
    refine x_mrg (pc' := 76) (L' := [(3, .int F3), (1, .long F2.1), (0, .ref o)]) (st' := [.int F4, .int (5 : Int32), .ref rd]) (h' := (hSet (hSet h o (moC nw rd sd pa xt F2.2)) rd (arI 103 tr))) (fun J => ?_) ?_
    · unfold g_X5_takesBelief_63 at eF4
      try rw [← eF1] at eF4
      try rw [← eF2] at eF4
      refine x_icmp_ne (pc := 63) (tgt := 75) dX5_takesBelief_63 (by decide) (fun (c9 : ¬ (F3 = (-4 : Int32))) => ?_) (fun (c9 : F3 = (-4 : Int32)) => ?_)
      · rw [if_neg c9] at eF4
        refine x_iload_n (pc := 75) dX5_takesBelief_75 rfl ?_
        subst eF4
        exact J
      · rw [if_pos c9] at eF4
        refine x_aload_n (pc := 66) dX5_takesBelief_66 rfl ?_
        refine x_getf (pc := 67) (v := .ref rd) dX5_takesBelief_67 xf_X5_13 (hAt_n n_o_rd hAt_same) rfl ?_
        refine x_iconst (pc := 70) (v := (5 : Int32)) dX5_takesBelief_70 (by decide) ?_
        refine x_iald (pc := 71) dX5_takesBelief_71 hAt_same (vp_in_nI (n := 5) (by decide) (by decide)) (j := 5) (nI_clamp (n := 5) (by decide)) ?_
        refine x_goto (pc := 72) (tgt := 76) dX5_takesBelief_72 (by decide) ?_
        subst eF4
        exact J
    refine x_iast (pc := 76) (e' := arI 103 (upd tr 5 F4)) dX5_takesBelief_76 hAt_same (vp_in_nI (n := 5) (by decide) (by decide)) (j := 5) (nI_clamp (n := 5) (by decide)) rfl ?_
    refine Wp.eqh (h' := (hSet (hSet h o (moC nw rd sd pa xt F2.2)) rd (arI 103 (upd tr 5 F4)))) (hSet_set) ?_
    refine x_iload_n (pc := 77) dX5_takesBelief_77 rfl ?_
    refine x_bipush (pc := 78) (v := (-4 : Int32)) dX5_takesBelief_78 (by decide) ?_
    refine x_mrg (pc' := 88) (L' := [(3, .int F3), (1, .long F2.1), (0, .ref o)]) (st' := [.int (if F3 = (-4 : Int32) then (0 : Int32) else (1 : Int32))]) (h' := (hSet (hSet h o (moC nw rd sd pa xt F2.2)) rd (arI 103 (upd tr 5 F4)))) (fun J => ?_) ?_
    · refine x_icmp_eq (pc := 80) (tgt := 87) dX5_takesBelief_80 (by decide) (fun (c10 : F3 = (-4 : Int32)) => ?_) (fun (c10 : ¬ (F3 = (-4 : Int32))) => ?_)
      · refine x_iconst (pc := 87) (v := (0 : Int32)) dX5_takesBelief_87 (by decide) ?_
        rw [if_pos c10] at J
        exact J
      · refine x_iconst (pc := 83) (v := (1 : Int32)) dX5_takesBelief_83 (by decide) ?_
        refine x_goto (pc := 84) (tgt := 88) dX5_takesBelief_84 (by decide) ?_
        rw [if_neg c10] at J
        exact J
    subst er
    exact x_iret (pc := 88) dX5_takesBelief_88 rfl (xb_nar (xB_ite xB0 xB1)) rfl rfl ⟨rfl, rfl⟩
  · rw [if_pos c1] at er
    replace hp := hp.1 c1
    refine x_iconst (pc := 9) (v := (0 : Int32)) dX5_takesBelief_9 (by decide) ?_
    subst er
    exact x_iret (pc := 10) dX5_takesBelief_10 rfl rfl rfl rfl ⟨rfl, rfl⟩
theorem B_X5_takesBelief (m tr tx : Nat → Int32) : xB (f_X5_takesBelief m tr tx).1 := by
  unfold f_X5_takesBelief
  exact (xB_ite1 (xB_fst xB0) (xB_fst (xB_ite xB0 xB1)))

def g_X5_takesLoss_6 (m : (Nat → Int32)) (tr : (Nat → Int32)) (tx : (Nat → Int32)) (y0 : Int32) : Int32 × (Nat → Int32) × (Nat → Int32) := (if y0 ≤ 0 then ((0 : Int32), m, tr) else (if (f_X5_puts m tr tx (f_X5_at ((tr 0) - (1 : Int32)) (10 : Int32)) (0 : Int32) (99 : Int32)).1 = 0 then ((0 : Int32), (f_X5_puts m tr tx (f_X5_at ((tr 0) - (1 : Int32)) (10 : Int32)) (0 : Int32) (99 : Int32)).2.1, (f_X5_puts m tr tx (f_X5_at ((tr 0) - (1 : Int32)) (10 : Int32)) (0 : Int32) (99 : Int32)).2.2) else ((1 : Int32), (f_X5_puts m tr tx (f_X5_at ((tr 0) - (1 : Int32)) (10 : Int32)) (0 : Int32) (99 : Int32)).2.1, (f_X5_puts m tr tx (f_X5_at ((tr 0) - (1 : Int32)) (10 : Int32)) (0 : Int32) (99 : Int32)).2.2)))
def h_X5_takesLoss_6 (m : (Nat → Int32)) (tr : (Nat → Int32)) (tx : (Nat → Int32)) (y0 : Int32) : Prop := ((y0 ≤ 0 → True) ∧ (¬ (y0 ≤ 0) → (p_X5_puts m tr tx (f_X5_at ((tr 0) - (1 : Int32)) (10 : Int32)) (0 : Int32) (99 : Int32) ∧ (((f_X5_puts m tr tx (f_X5_at ((tr 0) - (1 : Int32)) (10 : Int32)) (0 : Int32) (99 : Int32)).1 = 0 → True) ∧ (¬ ((f_X5_puts m tr tx (f_X5_at ((tr 0) - (1 : Int32)) (10 : Int32)) (0 : Int32) (99 : Int32)).1 = 0) → True)))))
theorem Bg_X5_takesLoss_6 (m : (Nat → Int32)) (tr : (Nat → Int32)) (tx : (Nat → Int32)) (y0 : Int32) : xB (g_X5_takesLoss_6 m tr tx y0).1 := by
  unfold g_X5_takesLoss_6
  exact (xB_ite1 (xB_fst xB0) (xB_ite1 (xB_fst xB0) (xB_fst xB1)))
def f_X5_takesLoss (m tr tx : Nat → Int32) : Int32 × (Nat → Int32) × (Nat → Int32) := ((g_X5_takesLoss_6 m tr tx (tr 0)).1, (g_X5_takesLoss_6 m tr tx (tr 0)).2.1, (g_X5_takesLoss_6 m tr tx (tr 0)).2.2)
def p_X5_takesLoss (m tr tx : Nat → Int32) : Prop := ((h_X5_takesLoss_6 m tr tx (tr 0)) ∧ True)
set_option maxRecDepth 100000 in
set_option maxHeartbeats 4000000 in
theorem C_X5_takesLoss (G : xG) (h : xH) (o nw rd sd pa xt : Nat) (m tr tx : Nat → Int32) (k_o : hAt h o = some (moC nw rd sd pa xt m)) (k_rd : hAt h rd = some (arI 103 tr)) (k_xt : hAt h xt = some (arI 240 tx)) (n_rd_xt : rd ≠ xt) (hp : p_X5_takesLoss m tr tx) : Cd G 5 yX5_takesLoss cX5_takesLoss 1 (some .boolean) [.ref o] h (some (.int (f_X5_takesLoss m tr tx).1)) (hSet (hSet h o (moC nw rd sd pa xt (f_X5_takesLoss m tr tx).2.1)) rd (arI 103 (f_X5_takesLoss m tr tx).2.2)) := by
  have n_o_rd : o ≠ rd := hne_k k_o k_rd rfl
  have n_xt_o : xt ≠ o := hne_k k_xt k_o rfl
  have n_xt_rd : xt ≠ rd := Ne.symm n_rd_xt
  refine Ct.of (by decide) (by rfl) ?_
  refine Wp.eqs (L' := [(0, .ref o)]) (st' := []) rfl rfl ?_
  refine Wp.eqh (h' := (hSet (hSet h o (moC nw rd sd pa xt m)) rd (arI 103 tr))) (by rw [hSet_self k_o, hSet_self k_rd]) ?_
  obtain ⟨R, er⟩ : ∃ R, R = f_X5_takesLoss m tr tx := ⟨_, rfl⟩
  rw [← er]
  unfold f_X5_takesLoss at er
  unfold p_X5_takesLoss at hp
  refine x_aload_n (pc := 0) dX5_takesLoss_0 rfl ?_
  refine x_getf (pc := 1) (v := .ref rd) dX5_takesLoss_1 xf_X5_13 (hAt_n n_o_rd hAt_same) rfl ?_
  refine x_iconst (pc := 4) (v := (0 : Int32)) dX5_takesLoss_4 (by decide) ?_
  refine x_iald (pc := 5) dX5_takesLoss_5 hAt_same (vp_in_nI (n := 0) (by decide) (by decide)) (j := 0) (nI_clamp (n := 0) (by decide)) ?_
  obtain ⟨qr6, hp⟩ := hp
  obtain ⟨F5, eF5⟩ : ∃ F, F = g_X5_takesLoss_6 m tr tx (tr 0) := ⟨_, rfl⟩
  try rw [← eF5] at er
  try rw [← eF5] at hp
  have bF5_1 : xB F5.1 := by rw [eF5]; exact (Bg_X5_takesLoss_6 _ _ _ _)
  refine x_mrg (pc' := 37) (L' := [(0, .ref o)]) (st' := [.int F5.1]) (h' := (hSet (hSet h o (moC nw rd sd pa xt F5.2.1)) rd (arI 103 F5.2.2))) (fun J => ?_) ?_
  · unfold g_X5_takesLoss_6 at eF5
    unfold h_X5_takesLoss_6 at qr6
    refine x_if_le (pc := 6) (tgt := 36) dX5_takesLoss_6 (by decide) (fun (c3 : (tr 0) ≤ 0) => ?_) (fun (c3 : ¬ ((tr 0) ≤ 0)) => ?_)
    · rw [if_pos c3] at eF5
      replace qr6 := qr6.1 c3
      refine x_iconst (pc := 36) (v := (0 : Int32)) dX5_takesLoss_36 (by decide) ?_
      subst eF5
      exact J
    · rw [if_neg c3] at eF5
      replace qr6 := qr6.2 c3
      refine x_aload_n (pc := 9) dX5_takesLoss_9 rfl ?_
      refine x_aload_n (pc := 10) dX5_takesLoss_10 rfl ?_
      refine x_getf (pc := 11) (v := .ref rd) dX5_takesLoss_11 xf_X5_13 (hAt_n n_o_rd hAt_same) rfl ?_
      refine x_iconst (pc := 14) (v := (0 : Int32)) dX5_takesLoss_14 (by decide) ?_
      refine x_iald (pc := 15) dX5_takesLoss_15 hAt_same (vp_in_nI (n := 0) (by decide) (by decide)) (j := 0) (nI_clamp (n := 0) (by decide)) ?_
      refine x_iconst (pc := 16) (v := (1 : Int32)) dX5_takesLoss_16 (by decide) ?_
      refine x_isub (pc := 17) dX5_takesLoss_17 ?_
      refine x_bipush (pc := 18) (v := (10 : Int32)) dX5_takesLoss_18 (by decide) ?_
      refine x_cS2i (pc := 20) dX5_takesLoss_20 xl_X5_36 xs_X5_at (C_X5_at G _ ((tr 0) - (1 : Int32)) (10 : Int32)) rfl rfl rfl ?_
      obtain ⟨F3, eF3⟩ : ∃ F, F = f_X5_at ((tr 0) - (1 : Int32)) (10 : Int32) := ⟨_, rfl⟩
      rw [← eF3]
      try rw [← eF3] at eF5
      try rw [← eF3] at qr6
      refine x_iconst (pc := 23) (v := (0 : Int32)) dX5_takesLoss_23 (by decide) ?_
      refine x_bipush (pc := 24) (v := (99 : Int32)) dX5_takesLoss_24 (by decide) ?_
      obtain ⟨q26, qr6⟩ := qr6
      refine x_cV3i (pc := 26) dX5_takesLoss_26 xl_X5_95 xv_X5_puts (hAt_n n_o_rd hAt_same) rfl (C_X5_puts G _ o nw rd sd pa xt m tr tx F3 (0 : Int32) (99 : Int32) (hAt_n n_o_rd hAt_same) hAt_same (hAt_n n_xt_rd (hAt_n n_xt_o k_xt)) n_rd_xt q26) rfl rfl rfl ?_
      obtain ⟨F4, eF4⟩ : ∃ F, F = f_X5_puts m tr tx F3 (0 : Int32) (99 : Int32) := ⟨_, rfl⟩
      rw [← eF4]
      try rw [← eF4] at eF5
      try rw [← eF4] at qr6
      have bF4_1 : xB F4.1 := by rw [eF4]; exact (B_X5_puts _ _ _ _ _ _)
      refine Wp.eqh (h' := (hSet (hSet h o (moC nw rd sd pa xt F4.2.1)) rd (arI 103 F4.2.2))) ((congrArg (fun z => hSet z rd _) (hSet_sw1 n_o_rd)).trans (hSet_set)) ?_
      refine x_if_eq (pc := 29) (tgt := 36) dX5_takesLoss_29 (by decide) (fun (c4 : F4.1 = 0) => ?_) (fun (c4 : ¬ (F4.1 = 0)) => ?_)
      · rw [if_pos c4] at eF5
        replace qr6 := qr6.1 c4
        refine x_iconst (pc := 36) (v := (0 : Int32)) dX5_takesLoss_36 (by decide) ?_
        subst eF5
        exact J
      · rw [if_neg c4] at eF5
        replace qr6 := qr6.2 c4
        refine x_iconst (pc := 32) (v := (1 : Int32)) dX5_takesLoss_32 (by decide) ?_
        refine x_goto (pc := 33) (tgt := 37) dX5_takesLoss_33 (by decide) ?_
        subst eF5
        exact J
  subst er
  exact x_iret (pc := 37) dX5_takesLoss_37 rfl (xb_nar bF5_1) rfl rfl ⟨rfl, rfl⟩
theorem B_X5_takesLoss (m tr tx : Nat → Int32) : xB (f_X5_takesLoss m tr tx).1 := by
  unfold f_X5_takesLoss
  exact (xB_fst (Bg_X5_takesLoss_6 _ _ _ _))
end
