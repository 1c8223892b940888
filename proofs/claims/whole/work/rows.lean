section
-- ===== PART A: goes FIRST, ahead of the names: the tables' words, and 'selects' of the private methods out of them =====
/-- a private method of a class that the tables say can be made, by its rows of tables_1 -/
def lw_okq (q : MethodName × Nat) : Prop := (q.1.cls ≠ "java/lang/invoke/MethodHandle" ∧ q.1.cls ≠ "java/lang/invoke/VarHandle") ∧ Cond.instantiable q.1.cls q.2 ∈ tables_1 ∧ Cond.privateMethod q.1 ∈ tables_1 ∧ Cond.instanceMethod q.1 ∈ tables_1
theorem lw_p0 : lw_okq (⟨"FlushedPipes", "startAsTold", "()V"⟩, 13) := ⟨⟨by decide +kernel, by decide +kernel⟩, List.mem_of_getElem? (i := 18) (by decide +kernel), List.mem_of_getElem? (i := 285) (by decide +kernel), List.mem_of_getElem? (i := 286) (by decide +kernel)⟩
theorem lw_p1 : lw_okq (⟨"FlushedPipes", "forgetSeen", "()V"⟩, 13) := ⟨⟨by decide +kernel, by decide +kernel⟩, List.mem_of_getElem? (i := 18) (by decide +kernel), List.mem_of_getElem? (i := 305) (by decide +kernel), List.mem_of_getElem? (i := 306) (by decide +kernel)⟩
theorem lw_p2 : lw_okq (⟨"FlushedPipes$Reader", "peek", "()I"⟩, 3) := ⟨⟨by decide +kernel, by decide +kernel⟩, List.mem_of_getElem? (i := 26) (by decide +kernel), List.mem_of_getElem? (i := 382) (by decide +kernel), List.mem_of_getElem? (i := 383) (by decide +kernel)⟩
theorem lw_p3 : lw_okq (⟨"FlushedPipes$Reader", "readItem", "(LFlushedPipes$Told;)Z"⟩, 3) := ⟨⟨by decide +kernel, by decide +kernel⟩, List.mem_of_getElem? (i := 26) (by decide +kernel), List.mem_of_getElem? (i := 386) (by decide +kernel), List.mem_of_getElem? (i := 387) (by decide +kernel)⟩
theorem lw_p4 : lw_okq (⟨"FlushedPipes$Reader", "readFact", "(LFlushedPipes$Told;Z)Z"⟩, 3) := ⟨⟨by decide +kernel, by decide +kernel⟩, List.mem_of_getElem? (i := 26) (by decide +kernel), List.mem_of_getElem? (i := 390) (by decide +kernel), List.mem_of_getElem? (i := 391) (by decide +kernel)⟩
theorem lw_p5 : lw_okq (⟨"FlushedPipes$Reader", "readTerm", "(LFlushedPipes$Terms;I)I"⟩, 3) := ⟨⟨by decide +kernel, by decide +kernel⟩, List.mem_of_getElem? (i := 26) (by decide +kernel), List.mem_of_getElem? (i := 394) (by decide +kernel), List.mem_of_getElem? (i := 395) (by decide +kernel)⟩
theorem lw_p6 : lw_okq (⟨"FlushedPipes$Terms", "append", "(IIII)I"⟩, 7) := ⟨⟨by decide +kernel, by decide +kernel⟩, List.mem_of_getElem? (i := 185) (by decide +kernel), List.mem_of_getElem? (i := 406) (by decide +kernel), List.mem_of_getElem? (i := 407) (by decide +kernel)⟩
theorem lw_p7 : lw_okq (⟨"FlushedPipes$Reader", "accept", "(I)Z"⟩, 3) := ⟨⟨by decide +kernel, by decide +kernel⟩, List.mem_of_getElem? (i := 26) (by decide +kernel), List.mem_of_getElem? (i := 410) (by decide +kernel), List.mem_of_getElem? (i := 411) (by decide +kernel)⟩
theorem lw_p8 : lw_okq (⟨"FlushedPipes$Reader", "readInstruction", "(LFlushedPipes$Told;I)Z"⟩, 3) := ⟨⟨by decide +kernel, by decide +kernel⟩, List.mem_of_getElem? (i := 26) (by decide +kernel), List.mem_of_getElem? (i := 418) (by decide +kernel), List.mem_of_getElem? (i := 419) (by decide +kernel)⟩
theorem lw_p9 : lw_okq (⟨"FlushedPipes$History", "dropOldest", "()V"⟩, 2) := ⟨⟨by decide +kernel, by decide +kernel⟩, List.mem_of_getElem? (i := 112) (by decide +kernel), List.mem_of_getElem? (i := 473) (by decide +kernel), List.mem_of_getElem? (i := 474) (by decide +kernel)⟩
theorem lw_p10 : lw_okq (⟨"FlushedPipes", "judge", "(II)I"⟩, 13) := ⟨⟨by decide +kernel, by decide +kernel⟩, List.mem_of_getElem? (i := 18) (by decide +kernel), List.mem_of_getElem? (i := 528) (by decide +kernel), List.mem_of_getElem? (i := 529) (by decide +kernel)⟩
theorem lw_p11 : lw_okq (⟨"FlushedPipes$Closure", "merge", "(II)V"⟩, 5) := ⟨⟨by decide +kernel, by decide +kernel⟩, List.mem_of_getElem? (i := 155) (by decide +kernel), List.mem_of_getElem? (i := 541) (by decide +kernel), List.mem_of_getElem? (i := 542) (by decide +kernel)⟩
theorem lw_p12 : lw_okq (⟨"FlushedPipes$Closure", "spread", "()V"⟩, 5) := ⟨⟨by decide +kernel, by decide +kernel⟩, List.mem_of_getElem? (i := 155) (by decide +kernel), List.mem_of_getElem? (i := 545) (by decide +kernel), List.mem_of_getElem? (i := 546) (by decide +kernel)⟩
theorem lw_p13 : lw_okq (⟨"FlushedPipes$Closure", "spreadOnce", "()Z"⟩, 5) := ⟨⟨by decide +kernel, by decide +kernel⟩, List.mem_of_getElem? (i := 155) (by decide +kernel), List.mem_of_getElem? (i := 549) (by decide +kernel), List.mem_of_getElem? (i := 550) (by decide +kernel)⟩
theorem lw_p14 : lw_okq (⟨"FlushedPipes$Closure", "findMatch", "(II)I"⟩, 5) := ⟨⟨by decide +kernel, by decide +kernel⟩, List.mem_of_getElem? (i := 155) (by decide +kernel), List.mem_of_getElem? (i := 556) (by decide +kernel), List.mem_of_getElem? (i := 557) (by decide +kernel)⟩
theorem lw_p15 : lw_okq (⟨"FlushedPipes", "goThrough", "(LFlushedPipes$Pipe;)V"⟩, 13) := ⟨⟨by decide +kernel, by decide +kernel⟩, List.mem_of_getElem? (i := 18) (by decide +kernel), List.mem_of_getElem? (i := 581) (by decide +kernel), List.mem_of_getElem? (i := 582) (by decide +kernel)⟩
def lw_privs_1 : List (MethodName × Nat) := [(⟨"FlushedPipes", "startAsTold", "()V"⟩, 13), (⟨"FlushedPipes", "forgetSeen", "()V"⟩, 13), (⟨"FlushedPipes$Reader", "peek", "()I"⟩, 3), (⟨"FlushedPipes$Reader", "readItem", "(LFlushedPipes$Told;)Z"⟩, 3), (⟨"FlushedPipes$Reader", "readFact", "(LFlushedPipes$Told;Z)Z"⟩, 3), (⟨"FlushedPipes$Reader", "readTerm", "(LFlushedPipes$Terms;I)I"⟩, 3), (⟨"FlushedPipes$Terms", "append", "(IIII)I"⟩, 7), (⟨"FlushedPipes$Reader", "accept", "(I)Z"⟩, 3), (⟨"FlushedPipes$Reader", "readInstruction", "(LFlushedPipes$Told;I)Z"⟩, 3), (⟨"FlushedPipes$History", "dropOldest", "()V"⟩, 2), (⟨"FlushedPipes", "judge", "(II)I"⟩, 13), (⟨"FlushedPipes$Closure", "merge", "(II)V"⟩, 5), (⟨"FlushedPipes$Closure", "spread", "()V"⟩, 5), (⟨"FlushedPipes$Closure", "spreadOnce", "()Z"⟩, 5), (⟨"FlushedPipes$Closure", "findMatch", "(II)I"⟩, 5), (⟨"FlushedPipes", "goThrough", "(LFlushedPipes$Pipe;)V"⟩, 13)]
theorem lw_r1 : ∀ q ∈ lw_privs_1, lw_okq q := List.forall_mem_cons.mpr ⟨lw_p0, List.forall_mem_cons.mpr ⟨lw_p1, List.forall_mem_cons.mpr ⟨lw_p2, List.forall_mem_cons.mpr ⟨lw_p3, List.forall_mem_cons.mpr ⟨lw_p4, List.forall_mem_cons.mpr ⟨lw_p5, List.forall_mem_cons.mpr ⟨lw_p6, List.forall_mem_cons.mpr ⟨lw_p7, List.forall_mem_cons.mpr ⟨lw_p8, List.forall_mem_cons.mpr ⟨lw_p9, List.forall_mem_cons.mpr ⟨lw_p10, List.forall_mem_cons.mpr ⟨lw_p11, List.forall_mem_cons.mpr ⟨lw_p12, List.forall_mem_cons.mpr ⟨lw_p13, List.forall_mem_cons.mpr ⟨lw_p14, List.forall_mem_cons.mpr ⟨lw_p15, fun _ h => absurd h List.not_mem_nil⟩⟩⟩⟩⟩⟩⟩⟩⟩⟩⟩⟩⟩⟩⟩⟩
theorem lw_p16 : lw_okq (⟨"FlushedPipes$Flow", "waitFrom", "(IILFlushedPipes$Pipe;)I"⟩, 6) := ⟨⟨by decide +kernel, by decide +kernel⟩, List.mem_of_getElem? (i := 129) (by decide +kernel), List.mem_of_getElem? (i := 601) (by decide +kernel), List.mem_of_getElem? (i := 602) (by decide +kernel)⟩
theorem lw_p17 : lw_okq (⟨"FlushedPipes$Flow", "isReady", "(IILFlushedPipes$Pipe;)Z"⟩, 6) := ⟨⟨by decide +kernel, by decide +kernel⟩, List.mem_of_getElem? (i := 129) (by decide +kernel), List.mem_of_getElem? (i := 605) (by decide +kernel), List.mem_of_getElem? (i := 606) (by decide +kernel)⟩
theorem lw_p18 : lw_okq (⟨"FlushedPipes$Flow", "showsMaker", "(IILFlushedPipes$Pipe;)Z"⟩, 6) := ⟨⟨by decide +kernel, by decide +kernel⟩, List.mem_of_getElem? (i := 129) (by decide +kernel), List.mem_of_getElem? (i := 609) (by decide +kernel), List.mem_of_getElem? (i := 610) (by decide +kernel)⟩
theorem lw_p19 : lw_okq (⟨"FlushedPipes$Flow", "readBy", "(IILFlushedPipes$Pipe;)I"⟩, 6) := ⟨⟨by decide +kernel, by decide +kernel⟩, List.mem_of_getElem? (i := 129) (by decide +kernel), List.mem_of_getElem? (i := 617) (by decide +kernel), List.mem_of_getElem? (i := 618) (by decide +kernel)⟩
theorem lw_p20 : lw_okq (⟨"FlushedPipes", "wrongBy", "(I)I"⟩, 13) := ⟨⟨by decide +kernel, by decide +kernel⟩, List.mem_of_getElem? (i := 18) (by decide +kernel), List.mem_of_getElem? (i := 660) (by decide +kernel), List.mem_of_getElem? (i := 661) (by decide +kernel)⟩
theorem lw_p21 : lw_okq (⟨"FlushedPipes", "fewestOf", "(I)I"⟩, 13) := ⟨⟨by decide +kernel, by decide +kernel⟩, List.mem_of_getElem? (i := 18) (by decide +kernel), List.mem_of_getElem? (i := 678) (by decide +kernel), List.mem_of_getElem? (i := 679) (by decide +kernel)⟩
theorem lw_p22 : lw_okq (⟨"FlushedPipes$Breaker", "seekOfSize", "(I)Z"⟩, 5) := ⟨⟨by decide +kernel, by decide +kernel⟩, List.mem_of_getElem? (i := 177) (by decide +kernel), List.mem_of_getElem? (i := 702) (by decide +kernel), List.mem_of_getElem? (i := 703) (by decide +kernel)⟩
theorem lw_p23 : lw_okq (⟨"FlushedPipes$Breaker", "writeProgram", "(II)V"⟩, 5) := ⟨⟨by decide +kernel, by decide +kernel⟩, List.mem_of_getElem? (i := 177) (by decide +kernel), List.mem_of_getElem? (i := 706) (by decide +kernel), List.mem_of_getElem? (i := 707) (by decide +kernel)⟩
theorem lw_p24 : lw_okq (⟨"FlushedPipes", "forwardsBy", "(I)I"⟩, 13) := ⟨⟨by decide +kernel, by decide +kernel⟩, List.mem_of_getElem? (i := 18) (by decide +kernel), List.mem_of_getElem? (i := 729) (by decide +kernel), List.mem_of_getElem? (i := 730) (by decide +kernel)⟩
theorem lw_p25 : lw_okq (⟨"FlushedPipesModel", "begins", "()V"⟩, 41) := ⟨⟨by decide +kernel, by decide +kernel⟩, List.mem_of_getElem? (i := 754) (by decide +kernel), List.mem_of_getElem? (i := 760) (by decide +kernel), List.mem_of_getElem? (i := 761) (by decide +kernel)⟩
theorem lw_p26 : lw_okq (⟨"FlushedPipesModel", "laysConstants", "()V"⟩, 41) := ⟨⟨by decide +kernel, by decide +kernel⟩, List.mem_of_getElem? (i := 754) (by decide +kernel), List.mem_of_getElem? (i := 764) (by decide +kernel), List.mem_of_getElem? (i := 765) (by decide +kernel)⟩
theorem lw_p27 : lw_okq (⟨"FlushedPipesModel", "node", "(III)I"⟩, 41) := ⟨⟨by decide +kernel, by decide +kernel⟩, List.mem_of_getElem? (i := 754) (by decide +kernel), List.mem_of_getElem? (i := 768) (by decide +kernel), List.mem_of_getElem? (i := 769) (by decide +kernel)⟩
theorem lw_p28 : lw_okq (⟨"FlushedPipesModel", "becomes", "()V"⟩, 41) := ⟨⟨by decide +kernel, by decide +kernel⟩, List.mem_of_getElem? (i := 754) (by decide +kernel), List.mem_of_getElem? (i := 772) (by decide +kernel), List.mem_of_getElem? (i := 773) (by decide +kernel)⟩
theorem lw_p29 : lw_okq (⟨"FlushedPipesModel", "takes", "()V"⟩, 41) := ⟨⟨by decide +kernel, by decide +kernel⟩, List.mem_of_getElem? (i := 754) (by decide +kernel), List.mem_of_getElem? (i := 915) (by decide +kernel), List.mem_of_getElem? (i := 916) (by decide +kernel)⟩
theorem lw_p30 : lw_okq (⟨"FlushedPipesModel", "item", "()Z"⟩, 41) := ⟨⟨by decide +kernel, by decide +kernel⟩, List.mem_of_getElem? (i := 754) (by decide +kernel), List.mem_of_getElem? (i := 919) (by decide +kernel), List.mem_of_getElem? (i := 920) (by decide +kernel)⟩
theorem lw_p31 : lw_okq (⟨"FlushedPipesModel", "readsFact", "(Z)Z"⟩, 41) := ⟨⟨by decide +kernel, by decide +kernel⟩, List.mem_of_getElem? (i := 754) (by decide +kernel), List.mem_of_getElem? (i := 923) (by decide +kernel), List.mem_of_getElem? (i := 924) (by decide +kernel)⟩
def lw_privs_2 : List (MethodName × Nat) := [(⟨"FlushedPipes$Flow", "waitFrom", "(IILFlushedPipes$Pipe;)I"⟩, 6), (⟨"FlushedPipes$Flow", "isReady", "(IILFlushedPipes$Pipe;)Z"⟩, 6), (⟨"FlushedPipes$Flow", "showsMaker", "(IILFlushedPipes$Pipe;)Z"⟩, 6), (⟨"FlushedPipes$Flow", "readBy", "(IILFlushedPipes$Pipe;)I"⟩, 6), (⟨"FlushedPipes", "wrongBy", "(I)I"⟩, 13), (⟨"FlushedPipes", "fewestOf", "(I)I"⟩, 13), (⟨"FlushedPipes$Breaker", "seekOfSize", "(I)Z"⟩, 5), (⟨"FlushedPipes$Breaker", "writeProgram", "(II)V"⟩, 5), (⟨"FlushedPipes", "forwardsBy", "(I)I"⟩, 13), (⟨"FlushedPipesModel", "begins", "()V"⟩, 41), (⟨"FlushedPipesModel", "laysConstants", "()V"⟩, 41), (⟨"FlushedPipesModel", "node", "(III)I"⟩, 41), (⟨"FlushedPipesModel", "becomes", "()V"⟩, 41), (⟨"FlushedPipesModel", "takes", "()V"⟩, 41), (⟨"FlushedPipesModel", "item", "()Z"⟩, 41), (⟨"FlushedPipesModel", "readsFact", "(Z)Z"⟩, 41)]
theorem lw_r2 : ∀ q ∈ lw_privs_2, lw_okq q := List.forall_mem_cons.mpr ⟨lw_p16, List.forall_mem_cons.mpr ⟨lw_p17, List.forall_mem_cons.mpr ⟨lw_p18, List.forall_mem_cons.mpr ⟨lw_p19, List.forall_mem_cons.mpr ⟨lw_p20, List.forall_mem_cons.mpr ⟨lw_p21, List.forall_mem_cons.mpr ⟨lw_p22, List.forall_mem_cons.mpr ⟨lw_p23, List.forall_mem_cons.mpr ⟨lw_p24, List.forall_mem_cons.mpr ⟨lw_p25, List.forall_mem_cons.mpr ⟨lw_p26, List.forall_mem_cons.mpr ⟨lw_p27, List.forall_mem_cons.mpr ⟨lw_p28, List.forall_mem_cons.mpr ⟨lw_p29, List.forall_mem_cons.mpr ⟨lw_p30, List.forall_mem_cons.mpr ⟨lw_p31, fun _ h => absurd h List.not_mem_nil⟩⟩⟩⟩⟩⟩⟩⟩⟩⟩⟩⟩⟩⟩⟩⟩
theorem lw_p32 : lw_okq (⟨"FlushedPipesModel", "readsTerm", "()I"⟩, 41) := ⟨⟨by decide +kernel, by decide +kernel⟩, List.mem_of_getElem? (i := 754) (by decide +kernel), List.mem_of_getElem? (i := 927) (by decide +kernel), List.mem_of_getElem? (i := 928) (by decide +kernel)⟩
theorem lw_p33 : lw_okq (⟨"FlushedPipesModel", "readsInstruction", "(I)Z"⟩, 41) := ⟨⟨by decide +kernel, by decide +kernel⟩, List.mem_of_getElem? (i := 754) (by decide +kernel), List.mem_of_getElem? (i := 931) (by decide +kernel), List.mem_of_getElem? (i := 932) (by decide +kernel)⟩
theorem lw_p34 : lw_okq (⟨"FlushedPipesModel", "its", "(II)I"⟩, 41) := ⟨⟨by decide +kernel, by decide +kernel⟩, List.mem_of_getElem? (i := 754) (by decide +kernel), List.mem_of_getElem? (i := 939) (by decide +kernel), List.mem_of_getElem? (i := 940) (by decide +kernel)⟩
theorem lw_p35 : lw_okq (⟨"FlushedPipesModel", "equalOf", "(III)I"⟩, 41) := ⟨⟨by decide +kernel, by decide +kernel⟩, List.mem_of_getElem? (i := 754) (by decide +kernel), List.mem_of_getElem? (i := 947) (by decide +kernel), List.mem_of_getElem? (i := 948) (by decide +kernel)⟩
theorem lw_p36 : lw_okq (⟨"FlushedPipesModel", "laysSame", "(III)V"⟩, 41) := ⟨⟨by decide +kernel, by decide +kernel⟩, List.mem_of_getElem? (i := 754) (by decide +kernel), List.mem_of_getElem? (i := 951) (by decide +kernel), List.mem_of_getElem? (i := 952) (by decide +kernel)⟩
theorem lw_p37 : lw_okq (⟨"FlushedPipesModel", "joins", "(II)V"⟩, 41) := ⟨⟨by decide +kernel, by decide +kernel⟩, List.mem_of_getElem? (i := 754) (by decide +kernel), List.mem_of_getElem? (i := 958) (by decide +kernel), List.mem_of_getElem? (i := 959) (by decide +kernel)⟩
theorem lw_p38 : lw_okq (⟨"FlushedPipesModel", "areParted", "(II)Z"⟩, 41) := ⟨⟨by decide +kernel, by decide +kernel⟩, List.mem_of_getElem? (i := 754) (by decide +kernel), List.mem_of_getElem? (i := 962) (by decide +kernel), List.mem_of_getElem? (i := 963) (by decide +kernel)⟩
theorem lw_p39 : lw_okq (⟨"FlushedPipesModel", "isRuledOut", "(I)Z"⟩, 41) := ⟨⟨by decide +kernel, by decide +kernel⟩, List.mem_of_getElem? (i := 754) (by decide +kernel), List.mem_of_getElem? (i := 966) (by decide +kernel), List.mem_of_getElem? (i := 967) (by decide +kernel)⟩
theorem lw_p40 : lw_okq (⟨"FlushedPipesModel", "runsNow", "()V"⟩, 41) := ⟨⟨by decide +kernel, by decide +kernel⟩, List.mem_of_getElem? (i := 754) (by decide +kernel), List.mem_of_getElem? (i := 981) (by decide +kernel), List.mem_of_getElem? (i := 982) (by decide +kernel)⟩
theorem lw_p41 : lw_okq (⟨"FlushedPipesModel", "runs", "(IZ)V"⟩, 41) := ⟨⟨by decide +kernel, by decide +kernel⟩, List.mem_of_getElem? (i := 754) (by decide +kernel), List.mem_of_getElem? (i := 985) (by decide +kernel), List.mem_of_getElem? (i := 986) (by decide +kernel)⟩
theorem lw_p42 : lw_okq (⟨"FlushedPipesModel", "laysSteps", "(IZ)V"⟩, 41) := ⟨⟨by decide +kernel, by decide +kernel⟩, List.mem_of_getElem? (i := 754) (by decide +kernel), List.mem_of_getElem? (i := 989) (by decide +kernel), List.mem_of_getElem? (i := 990) (by decide +kernel)⟩
theorem lw_p43 : lw_okq (⟨"FlushedPipesModel", "mayGo", "(III)Z"⟩, 41) := ⟨⟨by decide +kernel, by decide +kernel⟩, List.mem_of_getElem? (i := 754) (by decide +kernel), List.mem_of_getElem? (i := 993) (by decide +kernel), List.mem_of_getElem? (i := 994) (by decide +kernel)⟩
theorem lw_p44 : lw_okq (⟨"FlushedPipesModel", "hasIt", "(IIII)Z"⟩, 41) := ⟨⟨by decide +kernel, by decide +kernel⟩, List.mem_of_getElem? (i := 754) (by decide +kernel), List.mem_of_getElem? (i := 997) (by decide +kernel), List.mem_of_getElem? (i := 998) (by decide +kernel)⟩
theorem lw_p45 : lw_okq (⟨"FlushedPipesModel", "latest", "(II)I"⟩, 41) := ⟨⟨by decide +kernel, by decide +kernel⟩, List.mem_of_getElem? (i := 754) (by decide +kernel), List.mem_of_getElem? (i := 1001) (by decide +kernel), List.mem_of_getElem? (i := 1002) (by decide +kernel)⟩
theorem lw_p46 : lw_okq (⟨"FlushedPipesModel", "makes", "(II)Z"⟩, 41) := ⟨⟨by decide +kernel, by decide +kernel⟩, List.mem_of_getElem? (i := 754) (by decide +kernel), List.mem_of_getElem? (i := 1005) (by decide +kernel), List.mem_of_getElem? (i := 1006) (by decide +kernel)⟩
theorem lw_p47 : lw_okq (⟨"FlushedPipesModel", "isVisible", "(II)Z"⟩, 41) := ⟨⟨by decide +kernel, by decide +kernel⟩, List.mem_of_getElem? (i := 754) (by decide +kernel), List.mem_of_getElem? (i := 1009) (by decide +kernel), List.mem_of_getElem? (i := 1010) (by decide +kernel)⟩
def lw_privs_3 : List (MethodName × Nat) := [(⟨"FlushedPipesModel", "readsTerm", "()I"⟩, 41), (⟨"FlushedPipesModel", "readsInstruction", "(I)Z"⟩, 41), (⟨"FlushedPipesModel", "its", "(II)I"⟩, 41), (⟨"FlushedPipesModel", "equalOf", "(III)I"⟩, 41), (⟨"FlushedPipesModel", "laysSame", "(III)V"⟩, 41), (⟨"FlushedPipesModel", "joins", "(II)V"⟩, 41), (⟨"FlushedPipesModel", "areParted", "(II)Z"⟩, 41), (⟨"FlushedPipesModel", "isRuledOut", "(I)Z"⟩, 41), (⟨"FlushedPipesModel", "runsNow", "()V"⟩, 41), (⟨"FlushedPipesModel", "runs", "(IZ)V"⟩, 41), (⟨"FlushedPipesModel", "laysSteps", "(IZ)V"⟩, 41), (⟨"FlushedPipesModel", "mayGo", "(III)Z"⟩, 41), (⟨"FlushedPipesModel", "hasIt", "(IIII)Z"⟩, 41), (⟨"FlushedPipesModel", "latest", "(II)I"⟩, 41), (⟨"FlushedPipesModel", "makes", "(II)Z"⟩, 41), (⟨"FlushedPipesModel", "isVisible", "(II)Z"⟩, 41)]
theorem lw_r3 : ∀ q ∈ lw_privs_3, lw_okq q := List.forall_mem_cons.mpr ⟨lw_p32, List.forall_mem_cons.mpr ⟨lw_p33, List.forall_mem_cons.mpr ⟨lw_p34, List.forall_mem_cons.mpr ⟨lw_p35, List.forall_mem_cons.mpr ⟨lw_p36, List.forall_mem_cons.mpr ⟨lw_p37, List.forall_mem_cons.mpr ⟨lw_p38, List.forall_mem_cons.mpr ⟨lw_p39, List.forall_mem_cons.mpr ⟨lw_p40, List.forall_mem_cons.mpr ⟨lw_p41, List.forall_mem_cons.mpr ⟨lw_p42, List.forall_mem_cons.mpr ⟨lw_p43, List.forall_mem_cons.mpr ⟨lw_p44, List.forall_mem_cons.mpr ⟨lw_p45, List.forall_mem_cons.mpr ⟨lw_p46, List.forall_mem_cons.mpr ⟨lw_p47, fun _ h => absurd h List.not_mem_nil⟩⟩⟩⟩⟩⟩⟩⟩⟩⟩⟩⟩⟩⟩⟩⟩
theorem lw_p48 : lw_okq (⟨"FlushedPipesModel", "goes", "(IZ)V"⟩, 41) := ⟨⟨by decide +kernel, by decide +kernel⟩, List.mem_of_getElem? (i := 754) (by decide +kernel), List.mem_of_getElem? (i := 1013) (by decide +kernel), List.mem_of_getElem? (i := 1014) (by decide +kernel)⟩
theorem lw_p49 : lw_okq (⟨"FlushedPipesModel", "readBy", "(IIIZ)I"⟩, 41) := ⟨⟨by decide +kernel, by decide +kernel⟩, List.mem_of_getElem? (i := 754) (by decide +kernel), List.mem_of_getElem? (i := 1017) (by decide +kernel), List.mem_of_getElem? (i := 1018) (by decide +kernel)⟩
theorem lw_p50 : lw_okq (⟨"FlushedPipesModel", "depth", "(I)I"⟩, 41) := ⟨⟨by decide +kernel, by decide +kernel⟩, List.mem_of_getElem? (i := 754) (by decide +kernel), List.mem_of_getElem? (i := 1025) (by decide +kernel), List.mem_of_getElem? (i := 1026) (by decide +kernel)⟩
theorem lw_p51 : lw_okq (⟨"FlushedPipesModel", "partOf", "(II)I"⟩, 41) := ⟨⟨by decide +kernel, by decide +kernel⟩, List.mem_of_getElem? (i := 754) (by decide +kernel), List.mem_of_getElem? (i := 1033) (by decide +kernel), List.mem_of_getElem? (i := 1034) (by decide +kernel)⟩
theorem lw_p52 : lw_okq (⟨"FlushedPipesModel", "wrongBy", "(I)I"⟩, 41) := ⟨⟨by decide +kernel, by decide +kernel⟩, List.mem_of_getElem? (i := 754) (by decide +kernel), List.mem_of_getElem? (i := 1049) (by decide +kernel), List.mem_of_getElem? (i := 1050) (by decide +kernel)⟩
theorem lw_p53 : lw_okq (⟨"FlushedPipesModel", "breaker", "()I"⟩, 41) := ⟨⟨by decide +kernel, by decide +kernel⟩, List.mem_of_getElem? (i := 754) (by decide +kernel), List.mem_of_getElem? (i := 1068) (by decide +kernel), List.mem_of_getElem? (i := 1069) (by decide +kernel)⟩
theorem lw_p54 : lw_okq (⟨"FlushedPipesModel", "breaks", "(II)Z"⟩, 41) := ⟨⟨by decide +kernel, by decide +kernel⟩, List.mem_of_getElem? (i := 754) (by decide +kernel), List.mem_of_getElem? (i := 1072) (by decide +kernel), List.mem_of_getElem? (i := 1073) (by decide +kernel)⟩
theorem lw_p55 : lw_okq (⟨"FlushedPipesModel", "unlike", "()I"⟩, 41) := ⟨⟨by decide +kernel, by decide +kernel⟩, List.mem_of_getElem? (i := 754) (by decide +kernel), List.mem_of_getElem? (i := 1076) (by decide +kernel), List.mem_of_getElem? (i := 1077) (by decide +kernel)⟩
theorem lw_p56 : lw_okq (⟨"FlushedPipesModel", "notes", "()V"⟩, 41) := ⟨⟨by decide +kernel, by decide +kernel⟩, List.mem_of_getElem? (i := 754) (by decide +kernel), List.mem_of_getElem? (i := 1084) (by decide +kernel), List.mem_of_getElem? (i := 1085) (by decide +kernel)⟩
def lw_privs_4 : List (MethodName × Nat) := [(⟨"FlushedPipesModel", "goes", "(IZ)V"⟩, 41), (⟨"FlushedPipesModel", "readBy", "(IIIZ)I"⟩, 41), (⟨"FlushedPipesModel", "depth", "(I)I"⟩, 41), (⟨"FlushedPipesModel", "partOf", "(II)I"⟩, 41), (⟨"FlushedPipesModel", "wrongBy", "(I)I"⟩, 41), (⟨"FlushedPipesModel", "breaker", "()I"⟩, 41), (⟨"FlushedPipesModel", "breaks", "(II)Z"⟩, 41), (⟨"FlushedPipesModel", "unlike", "()I"⟩, 41), (⟨"FlushedPipesModel", "notes", "()V"⟩, 41)]
theorem lw_r4 : ∀ q ∈ lw_privs_4, lw_okq q := List.forall_mem_cons.mpr ⟨lw_p48, List.forall_mem_cons.mpr ⟨lw_p49, List.forall_mem_cons.mpr ⟨lw_p50, List.forall_mem_cons.mpr ⟨lw_p51, List.forall_mem_cons.mpr ⟨lw_p52, List.forall_mem_cons.mpr ⟨lw_p53, List.forall_mem_cons.mpr ⟨lw_p54, List.forall_mem_cons.mpr ⟨lw_p55, List.forall_mem_cons.mpr ⟨lw_p56, fun _ h => absurd h List.not_mem_nil⟩⟩⟩⟩⟩⟩⟩⟩⟩
def lw_privs : List (MethodName × Nat) := lw_privs_1 ++ (lw_privs_2 ++ (lw_privs_3 ++ (lw_privs_4)))
def lw_tbl : List Cond := k2_sels lw_privs ++ tables_1
theorem lw_privs_ok : ∀ q ∈ lw_privs, lw_okq q := by
  show ∀ q ∈ lw_privs_1 ++ (lw_privs_2 ++ (lw_privs_3 ++ (lw_privs_4))), lw_okq q
  exact List.forall_mem_append.mpr ⟨lw_r1, List.forall_mem_append.mpr ⟨lw_r2, List.forall_mem_append.mpr ⟨lw_r3, lw_r4⟩⟩⟩
end
section
def RX0 : String := "FlushedPipes$Breaker"
def TX0 : u_T := fun k => match k with
  | 0 => ("FlushedPipes$Breaker", "program", "LFlushedPipes$Program;", true)
  | 1 => ("FlushedPipes$Breaker", "terms", "LFlushedPipes$Terms;", true)
  | 2 => ("FlushedPipes$Breaker", "flow", "LFlushedPipes$Flow;", true)
  | 3 => ("FlushedPipes$Breaker", "pipe", "LFlushedPipes$Pipe;", true)
  | _ => ("FlushedPipes$Breaker", "sought", "Z", false)
def tyX0 : Nat → FieldType := fun k => match k with
  | 0 => .object "FlushedPipes$Program"
  | 1 => .object "FlushedPipes$Terms"
  | 2 => .object "FlushedPipes$Flow"
  | 3 => .object "FlushedPipes$Pipe"
  | _ => .boolean
abbrev wsX00 : List Cond := u_ws RX0 TX0 5
theorem nmX0 : ∀ a, a < 5 → ∀ b, b < 5 → a ≠ b → (TX0 a).2.1 ≠ (TX0 b).2.1 := by decide +kernel
theorem tyX0_ok : ∀ k, k < 5 → parseFieldDescriptor (TX0 k).2.2.1 = some (tyX0 k) := by decide +kernel
abbrev cX0_init : ByteArray := prog_2_method_1_code
def yX0_init : MethodName := ⟨RX0, "<init>", "()V"⟩
abbrev cX0_sizeBy : ByteArray := prog_2_method_2_code
def yX0_sizeBy : MethodName := ⟨RX0, "sizeBy", "(LFlushedPipes$Pipe;)I"⟩
abbrev cX0_numberAt : ByteArray := prog_2_method_3_code
def yX0_numberAt : MethodName := ⟨RX0, "numberAt", "(I)I"⟩
abbrev cX0_seekOfSize : ByteArray := prog_2_method_4_code
def yX0_seekOfSize : MethodName := ⟨RX0, "seekOfSize", "(I)Z"⟩
abbrev cX0_writeProgram : ByteArray := prog_2_method_5_code
def yX0_writeProgram : MethodName := ⟨RX0, "writeProgram", "(II)V"⟩
def RX1 : String := "FlushedPipes$Closure"
def TX1 : u_T := fun k => match k with
  | 0 => ("FlushedPipes$Closure", "root", "[I", true)
  | 1 => ("FlushedPipes$Closure", "chain", "[I", true)
  | 2 => ("FlushedPipes$Closure", "next", "[I", true)
  | 3 => ("FlushedPipes$Closure", "terms", "LFlushedPipes$Terms;", false)
  | _ => ("FlushedPipes$Closure", "size", "I", false)
def tyX1 : Nat → FieldType := fun k => match k with
  | 0 => .array .int
  | 1 => .array .int
  | 2 => .array .int
  | 3 => .object "FlushedPipes$Terms"
  | _ => .int
abbrev wsX10 : List Cond := u_ws RX1 TX1 5
theorem nmX1 : ∀ a, a < 5 → ∀ b, b < 5 → a ≠ b → (TX1 a).2.1 ≠ (TX1 b).2.1 := by decide +kernel
theorem tyX1_ok : ∀ k, k < 5 → parseFieldDescriptor (TX1 k).2.2.1 = some (tyX1 k) := by decide +kernel
abbrev cX1_init : ByteArray := prog_3_method_1_code
def yX1_init : MethodName := ⟨RX1, "<init>", "()V"⟩
abbrev cX1_closeBy : ByteArray := prog_3_method_2_code
def yX1_closeBy : MethodName := ⟨RX1, "closeBy", "(LFlushedPipes$Told;I)V"⟩
abbrev cX1_assume : ByteArray := prog_3_method_3_code
def yX1_assume : MethodName := ⟨RX1, "assume", "(II)V"⟩
abbrev cX1_same : ByteArray := prog_3_method_4_code
def yX1_same : MethodName := ⟨RX1, "same", "(II)Z"⟩
abbrev cX1_rulesOut : ByteArray := prog_3_method_5_code
def yX1_rulesOut : MethodName := ⟨RX1, "rulesOut", "(LFlushedPipes$Told;I)Z"⟩
abbrev cX1_merge : ByteArray := prog_3_method_6_code
def yX1_merge : MethodName := ⟨RX1, "merge", "(II)V"⟩
abbrev cX1_spread : ByteArray := prog_3_method_7_code
def yX1_spread : MethodName := ⟨RX1, "spread", "()V"⟩
abbrev cX1_spreadOnce : ByteArray := prog_3_method_8_code
def yX1_spreadOnce : MethodName := ⟨RX1, "spreadOnce", "()Z"⟩
abbrev cX1_findMatch : ByteArray := prog_3_method_9_code
def yX1_findMatch : MethodName := ⟨RX1, "findMatch", "(II)I"⟩
def RX2 : String := "FlushedPipes$Flow"
def TX2 : u_T := fun k => match k with
  | 0 => ("FlushedPipes$Flow", "plain", "[I", true)
  | 1 => ("FlushedPipes$Flow", "piped", "[I", true)
  | 2 => ("FlushedPipes$Flow", "makers", "[I", true)
  | 3 => ("FlushedPipes$Flow", "steps", "[I", true)
  | 4 => ("FlushedPipes$Flow", "targets", "[I", true)
  | _ => ("FlushedPipes$Flow", "made", "[I", true)
def tyX2 : Nat → FieldType := fun k => match k with
  | 0 => .array .int
  | 1 => .array .int
  | 2 => .array .int
  | 3 => .array .int
  | 4 => .array .int
  | _ => .array .int
abbrev wsX20 : List Cond := u_ws RX2 TX2 6
theorem nmX2 : ∀ a, a < 6 → ∀ b, b < 6 → a ≠ b → (TX2 a).2.1 ≠ (TX2 b).2.1 := by decide +kernel
theorem tyX2_ok : ∀ k, k < 6 → parseFieldDescriptor (TX2 k).2.2.1 = some (tyX2 k) := by decide +kernel
abbrev cX2_init : ByteArray := prog_4_method_1_code
def yX2_init : MethodName := ⟨RX2, "<init>", "()V"⟩
abbrev cX2_goPlain : ByteArray := prog_4_method_2_code
def yX2_goPlain : MethodName := ⟨RX2, "goPlain", "(LFlushedPipes$Program;LFlushedPipes$Terms;)V"⟩
abbrev cX2_goPiped : ByteArray := prog_4_method_3_code
def yX2_goPiped : MethodName := ⟨RX2, "goPiped", "(LFlushedPipes$Program;LFlushedPipes$Pipe;LFlushedPipes$Terms;)V"⟩
abbrev cX2_headOf : ByteArray := prog_4_method_4_code
def yX2_headOf : MethodName := ⟨RX2, "headOf", "(I)I"⟩
abbrev cX2_waitFrom : ByteArray := prog_4_method_5_code
def yX2_waitFrom : MethodName := ⟨RX2, "waitFrom", "(IILFlushedPipes$Pipe;)I"⟩
abbrev cX2_isReady : ByteArray := prog_4_method_6_code
def yX2_isReady : MethodName := ⟨RX2, "isReady", "(IILFlushedPipes$Pipe;)Z"⟩
abbrev cX2_showsMaker : ByteArray := prog_4_method_7_code
def yX2_showsMaker : MethodName := ⟨RX2, "showsMaker", "(IILFlushedPipes$Pipe;)Z"⟩
abbrev cX2_readBy : ByteArray := prog_4_method_8_code
def yX2_readBy : MethodName := ⟨RX2, "readBy", "(IILFlushedPipes$Pipe;)I"⟩
abbrev cX2_stepAt : ByteArray := prog_4_method_9_code
def yX2_stepAt : MethodName := ⟨RX2, "stepAt", "(I)I"⟩
abbrev cX2_lastOf : ByteArray := prog_4_method_10_code
def yX2_lastOf : MethodName := ⟨RX2, "lastOf", "(IZ)I"⟩
abbrev cX2_differing : ByteArray := prog_4_method_11_code
def yX2_differing : MethodName := ⟨RX2, "differing", "()I"⟩
def RX3 : String := "FlushedPipes$History"
def TX3 : u_T := fun k => match k with
  | 0 => ("FlushedPipes$History", "settings", "[LFlushedPipes$Setting;", true)
  | _ => ("FlushedPipes$History", "size", "I", false)
def tyX3 : Nat → FieldType := fun k => match k with
  | 0 => .array (.object "FlushedPipes$Setting")
  | _ => .int
abbrev wsX30 : List Cond := u_ws RX3 TX3 2
theorem nmX3 : ∀ a, a < 2 → ∀ b, b < 2 → a ≠ b → (TX3 a).2.1 ≠ (TX3 b).2.1 := by decide +kernel
theorem tyX3_ok : ∀ k, k < 2 → parseFieldDescriptor (TX3 k).2.2.1 = some (tyX3 k) := by decide +kernel
abbrev cX3_init : ByteArray := prog_5_method_1_code
def yX3_init : MethodName := ⟨RX3, "<init>", "()V"⟩
abbrev cX3_forgetAll : ByteArray := prog_5_method_2_code
def yX3_forgetAll : MethodName := ⟨RX3, "forgetAll", "()V"⟩
abbrev cX3_remember : ByteArray := prog_5_method_3_code
def yX3_remember : MethodName := ⟨RX3, "remember", "(LFlushedPipes$Setting;)V"⟩
abbrev cX3_dropOldest : ByteArray := prog_5_method_4_code
def yX3_dropOldest : MethodName := ⟨RX3, "dropOldest", "()V"⟩
abbrev cX3_restoreLatest : ByteArray := prog_5_method_5_code
def yX3_restoreLatest : MethodName := ⟨RX3, "restoreLatest", "(LFlushedPipes$Setting;)V"⟩
def RX4 : String := "FlushedPipes$Pipe"
def TX4 : u_T := fun k => match k with
  | 0 => ("FlushedPipes$Pipe", "lag", "I", false)
  | 1 => ("FlushedPipes$Pipe", "forwards", "I", false)
  | _ => ("FlushedPipes$Pipe", "waits", "I", false)
def tyX4 : Nat → FieldType := fun k => match k with
  | 0 => .int
  | 1 => .int
  | _ => .int
abbrev wsX40 : List Cond := u_ws RX4 TX4 3
theorem nmX4 : ∀ a, a < 3 → ∀ b, b < 3 → a ≠ b → (TX4 a).2.1 ≠ (TX4 b).2.1 := by decide +kernel
theorem tyX4_ok : ∀ k, k < 3 → parseFieldDescriptor (TX4 k).2.2.1 = some (tyX4 k) := by decide +kernel
abbrev cX4_init : ByteArray := prog_6_method_1_code
def yX4_init : MethodName := ⟨RX4, "<init>", "()V"⟩
abbrev cX4_setFirst : ByteArray := prog_6_method_2_code
def yX4_setFirst : MethodName := ⟨RX4, "setFirst", "()V"⟩
abbrev cX4_set : ByteArray := prog_6_method_3_code
def yX4_set : MethodName := ⟨RX4, "set", "(III)V"⟩
abbrev cX4_copyFrom : ByteArray := prog_6_method_4_code
def yX4_copyFrom : MethodName := ⟨RX4, "copyFrom", "(LFlushedPipes$Pipe;)V"⟩
abbrev cX4_is : ByteArray := prog_6_method_5_code
def yX4_is : MethodName := ⟨RX4, "is", "(III)Z"⟩
abbrev cX4_shows : ByteArray := prog_6_method_6_code
def yX4_shows : MethodName := ⟨RX4, "shows", "(I)Z"⟩
abbrev cX4_hidesNothing : ByteArray := prog_6_method_7_code
def yX4_hidesNothing : MethodName := ⟨RX4, "hidesNothing", "()Z"⟩
def RX5 : String := "FlushedPipes$Program"
def TX5 : u_T := fun k => match k with
  | 0 => ("FlushedPipes$Program", "codes", "[I", true)
  | _ => ("FlushedPipes$Program", "size", "I", false)
def tyX5 : Nat → FieldType := fun k => match k with
  | 0 => .array .int
  | _ => .int
abbrev wsX50 : List Cond := u_ws RX5 TX5 2
theorem nmX5 : ∀ a, a < 2 → ∀ b, b < 2 → a ≠ b → (TX5 a).2.1 ≠ (TX5 b).2.1 := by decide +kernel
theorem tyX5_ok : ∀ k, k < 2 → parseFieldDescriptor (TX5 k).2.2.1 = some (tyX5 k) := by decide +kernel
abbrev cX5_init : ByteArray := prog_7_method_1_code
def yX5_init : MethodName := ⟨RX5, "<init>", "()V"⟩
abbrev cX5_forgetAll : ByteArray := prog_7_method_2_code
def yX5_forgetAll : MethodName := ⟨RX5, "forgetAll", "()V"⟩
abbrev cX5_copyFrom : ByteArray := prog_7_method_3_code
def yX5_copyFrom : MethodName := ⟨RX5, "copyFrom", "(LFlushedPipes$Program;)V"⟩
abbrev cX5_codeOf : ByteArray := prog_7_method_4_code
def yX5_codeOf : MethodName := ⟨RX5, "codeOf", "(IIII)I"⟩
abbrev cX5_has : ByteArray := prog_7_method_5_code
def yX5_has : MethodName := ⟨RX5, "has", "(I)Z"⟩
abbrev cX5_codeAt : ByteArray := prog_7_method_6_code
def yX5_codeAt : MethodName := ⟨RX5, "codeAt", "(I)I"⟩
abbrev cX5_set : ByteArray := prog_7_method_7_code
def yX5_set : MethodName := ⟨RX5, "set", "(II)V"⟩
abbrev cX5_kindOf : ByteArray := prog_7_method_8_code
def yX5_kindOf : MethodName := ⟨RX5, "kindOf", "(I)I"⟩
abbrev cX5_targetOf : ByteArray := prog_7_method_9_code
def yX5_targetOf : MethodName := ⟨RX5, "targetOf", "(I)I"⟩
abbrev cX5_firstOf : ByteArray := prog_7_method_10_code
def yX5_firstOf : MethodName := ⟨RX5, "firstOf", "(I)I"⟩
abbrev cX5_secondOf : ByteArray := prog_7_method_11_code
def yX5_secondOf : MethodName := ⟨RX5, "secondOf", "(I)I"⟩
def RX6 : String := "FlushedPipes$Reader"
def TX6 : u_T := fun k => match k with
  | 0 => ("FlushedPipes$Reader", "text", "[I", true)
  | 1 => ("FlushedPipes$Reader", "size", "I", false)
  | _ => ("FlushedPipes$Reader", "place", "I", false)
def tyX6 : Nat → FieldType := fun k => match k with
  | 0 => .array .int
  | 1 => .int
  | _ => .int
abbrev wsX60 : List Cond := u_ws RX6 TX6 3
theorem nmX6 : ∀ a, a < 3 → ∀ b, b < 3 → a ≠ b → (TX6 a).2.1 ≠ (TX6 b).2.1 := by decide +kernel
theorem tyX6_ok : ∀ k, k < 3 → parseFieldDescriptor (TX6 k).2.2.1 = some (tyX6 k) := by decide +kernel
abbrev cX6_init : ByteArray := prog_8_method_1_code
def yX6_init : MethodName := ⟨RX6, "<init>", "()V"⟩
abbrev cX6_isFull : ByteArray := prog_8_method_2_code
def yX6_isFull : MethodName := ⟨RX6, "isFull", "()Z"⟩
abbrev cX6_append : ByteArray := prog_8_method_3_code
def yX6_append : MethodName := ⟨RX6, "append", "(I)V"⟩
abbrev cX6_readAll : ByteArray := prog_8_method_4_code
def yX6_readAll : MethodName := ⟨RX6, "readAll", "(LFlushedPipes$Told;)I"⟩
abbrev cX6_peek : ByteArray := prog_8_method_5_code
def yX6_peek : MethodName := ⟨RX6, "peek", "()I"⟩
abbrev cX6_accept : ByteArray := prog_8_method_6_code
def yX6_accept : MethodName := ⟨RX6, "accept", "(I)Z"⟩
abbrev cX6_readItem : ByteArray := prog_8_method_7_code
def yX6_readItem : MethodName := ⟨RX6, "readItem", "(LFlushedPipes$Told;)Z"⟩
abbrev cX6_readFact : ByteArray := prog_8_method_8_code
def yX6_readFact : MethodName := ⟨RX6, "readFact", "(LFlushedPipes$Told;Z)Z"⟩
abbrev cX6_readTerm : ByteArray := prog_8_method_9_code
def yX6_readTerm : MethodName := ⟨RX6, "readTerm", "(LFlushedPipes$Terms;I)I"⟩
abbrev cX6_readInstruction : ByteArray := prog_8_method_10_code
def yX6_readInstruction : MethodName := ⟨RX6, "readInstruction", "(LFlushedPipes$Told;I)Z"⟩
def RX7 : String := "FlushedPipes$Setting"
def TX7 : u_T := fun k => match k with
  | 0 => ("FlushedPipes$Setting", "program", "LFlushedPipes$Program;", true)
  | 1 => ("FlushedPipes$Setting", "pipe", "LFlushedPipes$Pipe;", true)
  | _ => ("FlushedPipes$Setting", "factsIn", "I", false)
def tyX7 : Nat → FieldType := fun k => match k with
  | 0 => .object "FlushedPipes$Program"
  | 1 => .object "FlushedPipes$Pipe"
  | _ => .int
abbrev wsX70 : List Cond := u_ws RX7 TX7 3
theorem nmX7 : ∀ a, a < 3 → ∀ b, b < 3 → a ≠ b → (TX7 a).2.1 ≠ (TX7 b).2.1 := by decide +kernel
theorem tyX7_ok : ∀ k, k < 3 → parseFieldDescriptor (TX7 k).2.2.1 = some (tyX7 k) := by decide +kernel
abbrev cX7_init : ByteArray := prog_9_method_1_code
def yX7_init : MethodName := ⟨RX7, "<init>", "()V"⟩
abbrev cX7_copyFrom : ByteArray := prog_9_method_2_code
def yX7_copyFrom : MethodName := ⟨RX7, "copyFrom", "(LFlushedPipes$Setting;)V"⟩
abbrev cX7_startAs : ByteArray := prog_9_method_3_code
def yX7_startAs : MethodName := ⟨RX7, "startAs", "(LFlushedPipes$Told;)V"⟩
def RX8 : String := "FlushedPipes$Terms"
def TX8 : u_T := fun k => match k with
  | 0 => ("FlushedPipes$Terms", "head", "[I", true)
  | 1 => ("FlushedPipes$Terms", "left", "[I", true)
  | 2 => ("FlushedPipes$Terms", "right", "[I", true)
  | 3 => ("FlushedPipes$Terms", "depth", "[I", true)
  | 4 => ("FlushedPipes$Terms", "letters", "[I", true)
  | 5 => ("FlushedPipes$Terms", "size", "I", false)
  | _ => ("FlushedPipes$Terms", "lasting", "I", false)
def tyX8 : Nat → FieldType := fun k => match k with
  | 0 => .array .int
  | 1 => .array .int
  | 2 => .array .int
  | 3 => .array .int
  | 4 => .array .int
  | 5 => .int
  | _ => .int
abbrev wsX80 : List Cond := u_ws RX8 TX8 7
theorem nmX8 : ∀ a, a < 7 → ∀ b, b < 7 → a ≠ b → (TX8 a).2.1 ≠ (TX8 b).2.1 := by decide +kernel
theorem tyX8_ok : ∀ k, k < 7 → parseFieldDescriptor (TX8 k).2.2.1 = some (tyX8 k) := by decide +kernel
abbrev cX8_init : ByteArray := prog_10_method_1_code
def yX8_init : MethodName := ⟨RX8, "<init>", "(I)V"⟩
abbrev cX8_forgetAll : ByteArray := prog_10_method_2_code
def yX8_forgetAll : MethodName := ⟨RX8, "forgetAll", "()V"⟩
abbrev cX8_makeLasting : ByteArray := prog_10_method_3_code
def yX8_makeLasting : MethodName := ⟨RX8, "makeLasting", "()V"⟩
abbrev cX8_dropPassing : ByteArray := prog_10_method_4_code
def yX8_dropPassing : MethodName := ⟨RX8, "dropPassing", "()V"⟩
abbrev cX8_has : ByteArray := prog_10_method_5_code
def yX8_has : MethodName := ⟨RX8, "has", "(I)Z"⟩
abbrev cX8_make : ByteArray := prog_10_method_6_code
def yX8_make : MethodName := ⟨RX8, "make", "(III)I"⟩
abbrev cX8_append : ByteArray := prog_10_method_7_code
def yX8_append : MethodName := ⟨RX8, "append", "(IIII)I"⟩
abbrev cX8_depthOf : ByteArray := prog_10_method_8_code
def yX8_depthOf : MethodName := ⟨RX8, "depthOf", "(I)I"⟩
abbrev cX8_letterOf : ByteArray := prog_10_method_9_code
def yX8_letterOf : MethodName := ⟨RX8, "letterOf", "(II)I"⟩
abbrev cX8_signOf : ByteArray := prog_10_method_10_code
def yX8_signOf : MethodName := ⟨RX8, "signOf", "(I)I"⟩
def RX9 : String := "FlushedPipes$Told"
def TX9 : u_T := fun k => match k with
  | 0 => ("FlushedPipes$Told", "terms", "LFlushedPipes$Terms;", true)
  | 1 => ("FlushedPipes$Told", "program", "LFlushedPipes$Program;", true)
  | 2 => ("FlushedPipes$Told", "first", "[I", true)
  | 3 => ("FlushedPipes$Told", "second", "[I", true)
  | 4 => ("FlushedPipes$Told", "alike", "[Z", true)
  | _ => ("FlushedPipes$Told", "facts", "I", false)
def tyX9 : Nat → FieldType := fun k => match k with
  | 0 => .object "FlushedPipes$Terms"
  | 1 => .object "FlushedPipes$Program"
  | 2 => .array .int
  | 3 => .array .int
  | 4 => .array .boolean
  | _ => .int
abbrev wsX90 : List Cond := u_ws RX9 TX9 6
theorem nmX9 : ∀ a, a < 6 → ∀ b, b < 6 → a ≠ b → (TX9 a).2.1 ≠ (TX9 b).2.1 := by decide +kernel
theorem tyX9_ok : ∀ k, k < 6 → parseFieldDescriptor (TX9 k).2.2.1 = some (tyX9 k) := by decide +kernel
abbrev cX9_init : ByteArray := prog_11_method_1_code
def yX9_init : MethodName := ⟨RX9, "<init>", "()V"⟩
abbrev cX9_forgetAll : ByteArray := prog_11_method_2_code
def yX9_forgetAll : MethodName := ⟨RX9, "forgetAll", "()V"⟩
abbrev cX9_has : ByteArray := prog_11_method_3_code
def yX9_has : MethodName := ⟨RX9, "has", "(I)Z"⟩
abbrev cX9_addFact : ByteArray := prog_11_method_4_code
def yX9_addFact : MethodName := ⟨RX9, "addFact", "(ZII)V"⟩
abbrev cX9_firstOf : ByteArray := prog_11_method_5_code
def yX9_firstOf : MethodName := ⟨RX9, "firstOf", "(I)I"⟩
abbrev cX9_secondOf : ByteArray := prog_11_method_6_code
def yX9_secondOf : MethodName := ⟨RX9, "secondOf", "(I)I"⟩
def RX10 : String := "FlushedPipes"
def TX10 : u_T := fun k => match k with
  | 0 => ("FlushedPipes", "reader", "LFlushedPipes$Reader;", true)
  | 1 => ("FlushedPipes", "now", "LFlushedPipes$Setting;", true)
  | 2 => ("FlushedPipes", "history", "LFlushedPipes$History;", true)
  | 3 => ("FlushedPipes", "images", "[LFlushedPipes$Setting;", true)
  | 4 => ("FlushedPipes", "kept", "[Z", true)
  | 5 => ("FlushedPipes", "flow", "LFlushedPipes$Flow;", true)
  | 6 => ("FlushedPipes", "closure", "LFlushedPipes$Closure;", true)
  | 7 => ("FlushedPipes", "breaker", "LFlushedPipes$Breaker;", true)
  | 8 => ("FlushedPipes", "trial", "LFlushedPipes$Pipe;", true)
  | 9 => ("FlushedPipes", "told", "LFlushedPipes$Told;", false)
  | 10 => ("FlushedPipes", "spare", "LFlushedPipes$Told;", false)
  | 11 => ("FlushedPipes", "seen", "I", false)
  | _ => ("FlushedPipes", "possible", "I", false)
def tyX10 : Nat → FieldType := fun k => match k with
  | 0 => .object "FlushedPipes$Reader"
  | 1 => .object "FlushedPipes$Setting"
  | 2 => .object "FlushedPipes$History"
  | 3 => .array (.object "FlushedPipes$Setting")
  | 4 => .array .boolean
  | 5 => .object "FlushedPipes$Flow"
  | 6 => .object "FlushedPipes$Closure"
  | 7 => .object "FlushedPipes$Breaker"
  | 8 => .object "FlushedPipes$Pipe"
  | 9 => .object "FlushedPipes$Told"
  | 10 => .object "FlushedPipes$Told"
  | 11 => .int
  | _ => .int
abbrev wsX100 : List Cond := u_ws RX10 TX10 13
theorem nmX10 : ∀ a, a < 13 → ∀ b, b < 13 → a ≠ b → (TX10 a).2.1 ≠ (TX10 b).2.1 := by decide +kernel
theorem tyX10_ok : ∀ k, k < 13 → parseFieldDescriptor (TX10 k).2.2.1 = some (tyX10 k) := by decide +kernel
abbrev cX10_init : ByteArray := prog_1_method_1_code
def yX10_init : MethodName := ⟨RX10, "<init>", "()V"⟩
abbrev cX10_startAsTold : ByteArray := prog_1_method_2_code
def yX10_startAsTold : MethodName := ⟨RX10, "startAsTold", "()V"⟩
abbrev cX10_forgetSeen : ByteArray := prog_1_method_3_code
def yX10_forgetSeen : MethodName := ⟨RX10, "forgetSeen", "()V"⟩
abbrev cX10_type : ByteArray := prog_1_method_4_code
def yX10_type : MethodName := ⟨RX10, "type", "(I)I"⟩
abbrev cX10_clear : ByteArray := prog_1_method_5_code
def yX10_clear : MethodName := ⟨RX10, "clear", "()I"⟩
abbrev cX10_machine : ByteArray := prog_1_method_6_code
def yX10_machine : MethodName := ⟨RX10, "machine", "()I"⟩
abbrev cX10_instruction : ByteArray := prog_1_method_7_code
def yX10_instruction : MethodName := ⟨RX10, "instruction", "(II)I"⟩
abbrev cX10_puts : ByteArray := prog_1_method_8_code
def yX10_puts : MethodName := ⟨RX10, "puts", "(IIIII)I"⟩
abbrev cX10_isInstruction : ByteArray := prog_1_method_9_code
def yX10_isInstruction : MethodName := ⟨RX10, "isInstruction", "(IIII)Z"⟩
abbrev cX10_isRegister : ByteArray := prog_1_method_10_code
def yX10_isRegister : MethodName := ⟨RX10, "isRegister", "(I)Z"⟩
abbrev cX10_leaves : ByteArray := prog_1_method_11_code
def yX10_leaves : MethodName := ⟨RX10, "leaves", "(I)I"⟩
abbrev cX10_tells : ByteArray := prog_1_method_12_code
def yX10_tells : MethodName := ⟨RX10, "tells", "(III)I"⟩
abbrev cX10_undo : ByteArray := prog_1_method_13_code
def yX10_undo : MethodName := ⟨RX10, "undo", "()I"⟩
abbrev cX10_fact : ByteArray := prog_1_method_14_code
def yX10_fact : MethodName := ⟨RX10, "fact", "(I)I"⟩
abbrev cX10_judge : ByteArray := prog_1_method_15_code
def yX10_judge : MethodName := ⟨RX10, "judge", "(II)I"⟩
abbrev cX10_ruled : ByteArray := prog_1_method_16_code
def yX10_ruled : MethodName := ⟨RX10, "ruled", "()I"⟩
abbrev cX10_equal : ByteArray := prog_1_method_17_code
def yX10_equal : MethodName := ⟨RX10, "equal", "(III)I"⟩
abbrev cX10_goThrough : ByteArray := prog_1_method_18_code
def yX10_goThrough : MethodName := ⟨RX10, "goThrough", "(LFlushedPipes$Pipe;)V"⟩
abbrev cX10_deep : ByteArray := prog_1_method_19_code
def yX10_deep : MethodName := ⟨RX10, "deep", "(II)I"⟩
abbrev cX10_term : ByteArray := prog_1_method_20_code
def yX10_term : MethodName := ⟨RX10, "term", "(III)I"⟩
abbrev cX10_step : ByteArray := prog_1_method_21_code
def yX10_step : MethodName := ⟨RX10, "step", "(I)I"⟩
abbrev cX10_length : ByteArray := prog_1_method_22_code
def yX10_length : MethodName := ⟨RX10, "length", "()I"⟩
abbrev cX10_wrong : ByteArray := prog_1_method_23_code
def yX10_wrong : MethodName := ⟨RX10, "wrong", "()I"⟩
abbrev cX10_wrongBy : ByteArray := prog_1_method_24_code
def yX10_wrongBy : MethodName := ⟨RX10, "wrongBy", "(I)I"⟩
abbrev cX10_needed : ByteArray := prog_1_method_25_code
def yX10_needed : MethodName := ⟨RX10, "needed", "()I"⟩
abbrev cX10_fewest : ByteArray := prog_1_method_26_code
def yX10_fewest : MethodName := ⟨RX10, "fewest", "()I"⟩
abbrev cX10_fewestOf : ByteArray := prog_1_method_27_code
def yX10_fewestOf : MethodName := ⟨RX10, "fewestOf", "(I)I"⟩
abbrev cX10_broken : ByteArray := prog_1_method_28_code
def yX10_broken : MethodName := ⟨RX10, "broken", "(I)I"⟩
abbrev cX10_sees : ByteArray := prog_1_method_29_code
def yX10_sees : MethodName := ⟨RX10, "sees", "(I)I"⟩
abbrev cX10_forwardsBy : ByteArray := prog_1_method_30_code
def yX10_forwardsBy : MethodName := ⟨RX10, "forwardsBy", "(I)I"⟩
abbrev cX10_forget : ByteArray := prog_1_method_31_code
def yX10_forget : MethodName := ⟨RX10, "forget", "()I"⟩
abbrev cX10_unseen : ByteArray := prog_1_method_32_code
def yX10_unseen : MethodName := ⟨RX10, "unseen", "()I"⟩
abbrev cX10_keep : ByteArray := prog_1_method_33_code
def yX10_keep : MethodName := ⟨RX10, "keep", "(I)I"⟩
abbrev cX10_back : ByteArray := prog_1_method_34_code
def yX10_back : MethodName := ⟨RX10, "back", "(I)I"⟩
abbrev cX10_count : ByteArray := prog_1_method_35_code
def yX10_count : MethodName := ⟨RX10, "count", "(I)I"⟩
def RX11 : String := "FlushedPipesModel"
def TX11 : u_T := fun k => match k with
  | 0 => ("FlushedPipesModel", "thrown", "I", false)
  | 1 => ("FlushedPipesModel", "facts", "I", false)
  | 2 => ("FlushedPipesModel", "isUnlike", "[Z", true)
  | 3 => ("FlushedPipesModel", "one", "[I", true)
  | 4 => ("FlushedPipesModel", "other", "[I", true)
  | 5 => ("FlushedPipesModel", "s", "[I", true)
  | 6 => ("FlushedPipesModel", "past", "[I", true)
  | 7 => ("FlushedPipesModel", "undos", "I", false)
  | 8 => ("FlushedPipesModel", "kept", "[I", true)
  | 9 => ("FlushedPipesModel", "isKept", "[Z", true)
  | 10 => ("FlushedPipesModel", "seen", "I", false)
  | 11 => ("FlushedPipesModel", "seenIs", "[I", true)
  | 12 => ("FlushedPipesModel", "seenRow", "[I", true)
  | 13 => ("FlushedPipesModel", "terms", "I", false)
  | 14 => ("FlushedPipesModel", "termsOfFacts", "I", false)
  | 15 => ("FlushedPipesModel", "head", "[I", true)
  | 16 => ("FlushedPipesModel", "left", "[I", true)
  | 17 => ("FlushedPipesModel", "right", "[I", true)
  | 18 => ("FlushedPipesModel", "wait", "[I", true)
  | 19 => ("FlushedPipesModel", "waitDeep", "[I", true)
  | 20 => ("FlushedPipesModel", "letters", "I", false)
  | 21 => ("FlushedPipesModel", "text", "[I", true)
  | 22 => ("FlushedPipesModel", "next", "I", false)
  | 23 => ("FlushedPipesModel", "begin", "I", false)
  | 24 => ("FlushedPipesModel", "token", "I", false)
  | 25 => ("FlushedPipesModel", "readFacts", "I", false)
  | 26 => ("FlushedPipesModel", "readUnlike", "[Z", true)
  | 27 => ("FlushedPipesModel", "readOne", "[I", true)
  | 28 => ("FlushedPipesModel", "readOther", "[I", true)
  | 29 => ("FlushedPipesModel", "readMany", "I", false)
  | 30 => ("FlushedPipesModel", "read", "[I", true)
  | 31 => ("FlushedPipesModel", "openHead", "[I", true)
  | 32 => ("FlushedPipesModel", "openLeft", "[I", true)
  | 33 => ("FlushedPipesModel", "asideHead", "[I", true)
  | 34 => ("FlushedPipesModel", "asideLeft", "[I", true)
  | 35 => ("FlushedPipesModel", "asideRight", "[I", true)
  | 36 => ("FlushedPipesModel", "same", "[I", true)
  | 37 => ("FlushedPipesModel", "steps", "[I", true)
  | 38 => ("FlushedPipesModel", "made", "[I", true)
  | 39 => ("FlushedPipesModel", "at", "[I", true)
  | _ => ("FlushedPipesModel", "aside", "[I", true)
def tyX11 : Nat → FieldType := fun k => match k with
  | 0 => .int
  | 1 => .int
  | 2 => .array .boolean
  | 3 => .array .int
  | 4 => .array .int
  | 5 => .array .int
  | 6 => .array .int
  | 7 => .int
  | 8 => .array .int
  | 9 => .array .boolean
  | 10 => .int
  | 11 => .array .int
  | 12 => .array .int
  | 13 => .int
  | 14 => .int
  | 15 => .array .int
  | 16 => .array .int
  | 17 => .array .int
  | 18 => .array .int
  | 19 => .array .int
  | 20 => .int
  | 21 => .array .int
  | 22 => .int
  | 23 => .int
  | 24 => .int
  | 25 => .int
  | 26 => .array .boolean
  | 27 => .array .int
  | 28 => .array .int
  | 29 => .int
  | 30 => .array .int
  | 31 => .array .int
  | 32 => .array .int
  | 33 => .array .int
  | 34 => .array .int
  | 35 => .array .int
  | 36 => .array .int
  | 37 => .array .int
  | 38 => .array .int
  | 39 => .array .int
  | _ => .array .int
abbrev wsX110 : List Cond := u_ws RX11 TX11 41
theorem nmX11 : ∀ a, a < 41 → ∀ b, b < 41 → a ≠ b → (TX11 a).2.1 ≠ (TX11 b).2.1 := by decide +kernel
theorem tyX11_ok : ∀ k, k < 41 → parseFieldDescriptor (TX11 k).2.2.1 = some (tyX11 k) := by decide +kernel
abbrev cX11_init : ByteArray := prog_13_method_1_code
def yX11_init : MethodName := ⟨RX11, "<init>", "()V"⟩
abbrev cX11_in : ByteArray := prog_13_method_3_code
def yX11_in : MethodName := ⟨RX11, "in", "(III)Z"⟩
abbrev cX11_has : ByteArray := prog_13_method_4_code
def yX11_has : MethodName := ⟨RX11, "has", "(II)Z"⟩
abbrev cX11_ones : ByteArray := prog_13_method_5_code
def yX11_ones : MethodName := ⟨RX11, "ones", "(I)I"⟩
abbrev cX11_node : ByteArray := prog_13_method_6_code
def yX11_node : MethodName := ⟨RX11, "node", "(III)I"⟩
abbrev cX11_laysConstants : ByteArray := prog_13_method_7_code
def yX11_laysConstants : MethodName := ⟨RX11, "laysConstants", "()V"⟩
abbrev cX11_depth : ByteArray := prog_13_method_8_code
def yX11_depth : MethodName := ⟨RX11, "depth", "(I)I"⟩
abbrev cX11_partOf : ByteArray := prog_13_method_9_code
def yX11_partOf : MethodName := ⟨RX11, "partOf", "(II)I"⟩
abbrev cX11_type : ByteArray := prog_13_method_10_code
def yX11_type : MethodName := ⟨RX11, "type", "(I)I"⟩
abbrev cX11_clear : ByteArray := prog_13_method_11_code
def yX11_clear : MethodName := ⟨RX11, "clear", "()I"⟩
abbrev cX11_takes : ByteArray := prog_13_method_12_code
def yX11_takes : MethodName := ⟨RX11, "takes", "()V"⟩
abbrev cX11_readsTerm : ByteArray := prog_13_method_13_code
def yX11_readsTerm : MethodName := ⟨RX11, "readsTerm", "()I"⟩
abbrev cX11_readsFact : ByteArray := prog_13_method_14_code
def yX11_readsFact : MethodName := ⟨RX11, "readsFact", "(Z)Z"⟩
abbrev cX11_readsInstruction : ByteArray := prog_13_method_15_code
def yX11_readsInstruction : MethodName := ⟨RX11, "readsInstruction", "(I)Z"⟩
abbrev cX11_item : ByteArray := prog_13_method_16_code
def yX11_item : MethodName := ⟨RX11, "item", "()Z"⟩
abbrev cX11_begins : ByteArray := prog_13_method_17_code
def yX11_begins : MethodName := ⟨RX11, "begins", "()V"⟩
abbrev cX11_becomes : ByteArray := prog_13_method_18_code
def yX11_becomes : MethodName := ⟨RX11, "becomes", "()V"⟩
abbrev cX11_machine : ByteArray := prog_13_method_19_code
def yX11_machine : MethodName := ⟨RX11, "machine", "()I"⟩
abbrev cX11_joins : ByteArray := prog_13_method_20_code
def yX11_joins : MethodName := ⟨RX11, "joins", "(II)V"⟩
abbrev cX11_areParted : ByteArray := prog_13_method_21_code
def yX11_areParted : MethodName := ⟨RX11, "areParted", "(II)Z"⟩
abbrev cX11_laysSame : ByteArray := prog_13_method_22_code
def yX11_laysSame : MethodName := ⟨RX11, "laysSame", "(III)V"⟩
abbrev cX11_isRuledOut : ByteArray := prog_13_method_23_code
def yX11_isRuledOut : MethodName := ⟨RX11, "isRuledOut", "(I)Z"⟩
abbrev cX11_equalOf : ByteArray := prog_13_method_24_code
def yX11_equalOf : MethodName := ⟨RX11, "equalOf", "(III)I"⟩
abbrev cX11_its : ByteArray := prog_13_method_25_code
def yX11_its : MethodName := ⟨RX11, "its", "(II)I"⟩
abbrev cX11_makes : ByteArray := prog_13_method_26_code
def yX11_makes : MethodName := ⟨RX11, "makes", "(II)Z"⟩
abbrev cX11_isVisible : ByteArray := prog_13_method_27_code
def yX11_isVisible : MethodName := ⟨RX11, "isVisible", "(II)Z"⟩
abbrev cX11_latest : ByteArray := prog_13_method_28_code
def yX11_latest : MethodName := ⟨RX11, "latest", "(II)I"⟩
abbrev cX11_hasIt : ByteArray := prog_13_method_29_code
def yX11_hasIt : MethodName := ⟨RX11, "hasIt", "(IIII)Z"⟩
abbrev cX11_mayGo : ByteArray := prog_13_method_30_code
def yX11_mayGo : MethodName := ⟨RX11, "mayGo", "(III)Z"⟩
abbrev cX11_laysSteps : ByteArray := prog_13_method_31_code
def yX11_laysSteps : MethodName := ⟨RX11, "laysSteps", "(IZ)V"⟩
abbrev cX11_readBy : ByteArray := prog_13_method_32_code
def yX11_readBy : MethodName := ⟨RX11, "readBy", "(IIIZ)I"⟩
abbrev cX11_goes : ByteArray := prog_13_method_33_code
def yX11_goes : MethodName := ⟨RX11, "goes", "(IZ)V"⟩
abbrev cX11_runs : ByteArray := prog_13_method_34_code
def yX11_runs : MethodName := ⟨RX11, "runs", "(IZ)V"⟩
abbrev cX11_runsNow : ByteArray := prog_13_method_35_code
def yX11_runsNow : MethodName := ⟨RX11, "runsNow", "()V"⟩
abbrev cX11_wrongBy : ByteArray := prog_13_method_36_code
def yX11_wrongBy : MethodName := ⟨RX11, "wrongBy", "(I)I"⟩
abbrev cX11_instruction : ByteArray := prog_13_method_37_code
def yX11_instruction : MethodName := ⟨RX11, "instruction", "(II)I"⟩
abbrev cX11_fact : ByteArray := prog_13_method_38_code
def yX11_fact : MethodName := ⟨RX11, "fact", "(I)I"⟩
abbrev cX11_ruled : ByteArray := prog_13_method_39_code
def yX11_ruled : MethodName := ⟨RX11, "ruled", "()I"⟩
abbrev cX11_isRegister : ByteArray := prog_13_method_40_code
def yX11_isRegister : MethodName := ⟨RX11, "isRegister", "(I)Z"⟩
abbrev cX11_equal : ByteArray := prog_13_method_41_code
def yX11_equal : MethodName := ⟨RX11, "equal", "(III)I"⟩
abbrev cX11_deep : ByteArray := prog_13_method_42_code
def yX11_deep : MethodName := ⟨RX11, "deep", "(II)I"⟩
abbrev cX11_term : ByteArray := prog_13_method_43_code
def yX11_term : MethodName := ⟨RX11, "term", "(III)I"⟩
abbrev cX11_step : ByteArray := prog_13_method_44_code
def yX11_step : MethodName := ⟨RX11, "step", "(I)I"⟩
abbrev cX11_length : ByteArray := prog_13_method_45_code
def yX11_length : MethodName := ⟨RX11, "length", "()I"⟩
abbrev cX11_wrong : ByteArray := prog_13_method_46_code
def yX11_wrong : MethodName := ⟨RX11, "wrong", "()I"⟩
abbrev cX11_needed : ByteArray := prog_13_method_47_code
def yX11_needed : MethodName := ⟨RX11, "needed", "()I"⟩
abbrev cX11_fewest : ByteArray := prog_13_method_48_code
def yX11_fewest : MethodName := ⟨RX11, "fewest", "()I"⟩
abbrev cX11_unlike : ByteArray := prog_13_method_49_code
def yX11_unlike : MethodName := ⟨RX11, "unlike", "()I"⟩
abbrev cX11_breaks : ByteArray := prog_13_method_50_code
def yX11_breaks : MethodName := ⟨RX11, "breaks", "(II)Z"⟩
abbrev cX11_breaker : ByteArray := prog_13_method_51_code
def yX11_breaker : MethodName := ⟨RX11, "breaker", "()I"⟩
abbrev cX11_broken : ByteArray := prog_13_method_52_code
def yX11_broken : MethodName := ⟨RX11, "broken", "(I)I"⟩
abbrev cX11_notes : ByteArray := prog_13_method_53_code
def yX11_notes : MethodName := ⟨RX11, "notes", "()V"⟩
abbrev cX11_puts : ByteArray := prog_13_method_54_code
def yX11_puts : MethodName := ⟨RX11, "puts", "(IIIII)I"⟩
abbrev cX11_leaves : ByteArray := prog_13_method_55_code
def yX11_leaves : MethodName := ⟨RX11, "leaves", "(I)I"⟩
abbrev cX11_tells : ByteArray := prog_13_method_56_code
def yX11_tells : MethodName := ⟨RX11, "tells", "(III)I"⟩
abbrev cX11_undo : ByteArray := prog_13_method_57_code
def yX11_undo : MethodName := ⟨RX11, "undo", "()I"⟩
abbrev cX11_sees : ByteArray := prog_13_method_58_code
def yX11_sees : MethodName := ⟨RX11, "sees", "(I)I"⟩
abbrev cX11_forget : ByteArray := prog_13_method_59_code
def yX11_forget : MethodName := ⟨RX11, "forget", "()I"⟩
abbrev cX11_unseen : ByteArray := prog_13_method_60_code
def yX11_unseen : MethodName := ⟨RX11, "unseen", "()I"⟩
abbrev cX11_keep : ByteArray := prog_13_method_61_code
def yX11_keep : MethodName := ⟨RX11, "keep", "(I)I"⟩
abbrev cX11_back : ByteArray := prog_13_method_62_code
def yX11_back : MethodName := ⟨RX11, "back", "(I)I"⟩
abbrev cX11_count : ByteArray := prog_13_method_63_code
def yX11_count : MethodName := ⟨RX11, "count", "(I)I"⟩
def RJ6 : String := "java/lang/Integer"
def TJ6 : u_T := fun k => match k with
  | _ => ("", "", "", false)
def tyJ6 : Nat → FieldType := fun k => match k with
  | _ => .int
abbrev wsJ60 : List Cond := u_ws RJ6 TJ6 0
theorem nmJ6 : ∀ a, a < 0 → ∀ b, b < 0 → a ≠ b → (TJ6 a).2.1 ≠ (TJ6 b).2.1 := by decide +kernel
theorem tyJ6_ok : ∀ k, k < 0 → parseFieldDescriptor (TJ6 k).2.2.1 = some (tyJ6 k) := by decide +kernel
abbrev cJ6_bitCount_0f7a4 : ByteArray := prog_14_method_49_code
def yJ6_bitCount_0f7a4 : MethodName := ⟨RJ6, "bitCount", "(I)I"⟩
def RJ9 : String := "java/lang/Math"
def TJ9 : u_T := fun k => match k with
  | _ => ("", "", "", false)
def tyJ9 : Nat → FieldType := fun k => match k with
  | _ => .int
abbrev wsJ90 : List Cond := u_ws RJ9 TJ9 0
theorem nmJ9 : ∀ a, a < 0 → ∀ b, b < 0 → a ≠ b → (TJ9 a).2.1 ≠ (TJ9 b).2.1 := by decide +kernel
theorem tyJ9_ok : ∀ k, k < 0 → parseFieldDescriptor (TJ9 k).2.2.1 = some (tyJ9 k) := by decide +kernel
abbrev cJ9_max_7cf53 : ByteArray := prog_15_method_65_code
def yJ9_max_7cf53 : MethodName := ⟨RJ9, "max", "(II)I"⟩
abbrev cJ9_min_7cf53 : ByteArray := prog_15_method_69_code
def yJ9_min_7cf53 : MethodName := ⟨RJ9, "min", "(II)I"⟩
def RJ10 : String := "java/lang/System"
def TJ10 : u_T := fun k => match k with
  | _ => ("", "", "", false)
def tyJ10 : Nat → FieldType := fun k => match k with
  | _ => .int
abbrev wsJ100 : List Cond := u_ws RJ10 TJ10 0
theorem nmJ10 : ∀ a, a < 0 → ∀ b, b < 0 → a ≠ b → (TJ10 a).2.1 ≠ (TJ10 b).2.1 := by decide +kernel
theorem tyJ10_ok : ∀ k, k < 0 → parseFieldDescriptor (TJ10 k).2.2.1 = some (tyJ10 k) := by decide +kernel
def RJ7 : String := "java/util/Arrays"
def TJ7 : u_T := fun k => match k with
  | _ => ("", "", "", false)
def tyJ7 : Nat → FieldType := fun k => match k with
  | _ => .int
abbrev wsJ70 : List Cond := u_ws RJ7 TJ7 0
theorem nmJ7 : ∀ a, a < 0 → ∀ b, b < 0 → a ≠ b → (TJ7 a).2.1 ≠ (TJ7 b).2.1 := by decide +kernel
theorem tyJ7_ok : ∀ k, k < 0 → parseFieldDescriptor (TJ7 k).2.2.1 = some (tyJ7 k) := by decide +kernel
abbrev cJ7_fill_53178 : ByteArray := prog_17_method_103_code
def yJ7_fill_53178 : MethodName := ⟨RJ7, "fill", "([II)V"⟩
def RL : String := "FlushedPipesLaw"
abbrev cL_law : ByteArray := code
def yL_law : MethodName := ⟨RL, "law", "([I)Z"⟩
abbrev vwCl : List vw_C := [(RX0, TX0, 5), (RX1, TX1, 5), (RX2, TX2, 6), (RX3, TX3, 2), (RX4, TX4, 3), (RX5, TX5, 2), (RX6, TX6, 3), (RX7, TX7, 3), (RX8, TX8, 7), (RX9, TX9, 6), (RX10, TX10, 13), (RX11, TX11, 41)]
end
section
theorem dX0_init_0 : decode cX0_init 0 = .ok (.aload_n 0, 1) := by decide +kernel
theorem dX0_init_1 : decode cX0_init 1 = .ok (.invokespecial 3, 3) := by decide +kernel
theorem dX0_init_4 : decode cX0_init 4 = .ok (.aload_n 0, 1) := by decide +kernel
theorem dX0_init_5 : decode cX0_init 5 = .ok (.new 9, 3) := by decide +kernel
theorem dX0_init_8 : decode cX0_init 8 = .ok (.dup, 1) := by decide +kernel
theorem dX0_init_9 : decode cX0_init 9 = .ok (.invokespecial 11, 3) := by decide +kernel
theorem dX0_init_12 : decode cX0_init 12 = .ok (.putfield 12, 3) := by decide +kernel
theorem dX0_init_15 : decode cX0_init 15 = .ok (.aload_n 0, 1) := by decide +kernel
theorem dX0_init_16 : decode cX0_init 16 = .ok (.new 18, 3) := by decide +kernel
theorem dX0_init_19 : decode cX0_init 19 = .ok (.dup, 1) := by decide +kernel
theorem dX0_init_20 : decode cX0_init 20 = .ok (.bipush 12, 2) := by decide +kernel
theorem dX0_init_22 : decode cX0_init 22 = .ok (.invokespecial 20, 3) := by decide +kernel
theorem dX0_init_25 : decode cX0_init 25 = .ok (.putfield 23, 3) := by decide +kernel
theorem dX0_init_28 : decode cX0_init 28 = .ok (.aload_n 0, 1) := by decide +kernel
theorem dX0_init_29 : decode cX0_init 29 = .ok (.new 27, 3) := by decide +kernel
theorem dX0_init_32 : decode cX0_init 32 = .ok (.dup, 1) := by decide +kernel
theorem dX0_init_33 : decode cX0_init 33 = .ok (.invokespecial 29, 3) := by decide +kernel
theorem dX0_init_36 : decode cX0_init 36 = .ok (.putfield 30, 3) := by decide +kernel
theorem dX0_init_39 : decode cX0_init 39 = .ok (.aload_n 0, 1) := by decide +kernel
theorem dX0_init_40 : decode cX0_init 40 = .ok (.new 34, 3) := by decide +kernel
theorem dX0_init_43 : decode cX0_init 43 = .ok (.dup, 1) := by decide +kernel
theorem dX0_init_44 : decode cX0_init 44 = .ok (.invokespecial 36, 3) := by decide +kernel
theorem dX0_init_47 : decode cX0_init 47 = .ok (.putfield 37, 3) := by decide +kernel
theorem dX0_init_50 : decode cX0_init 50 = .ok (.return_, 1) := by decide +kernel
theorem dX0_sizeBy_0 : decode cX0_sizeBy 0 = .ok (.aload_n 0, 1) := by decide +kernel
theorem dX0_sizeBy_1 : decode cX0_sizeBy 1 = .ok (.getfield 41, 3) := by decide +kernel
theorem dX0_sizeBy_4 : decode cX0_sizeBy 4 = .ok (.ifCond .eq 33, 3) := by decide +kernel
theorem dX0_sizeBy_7 : decode cX0_sizeBy 7 = .ok (.aload_n 0, 1) := by decide +kernel
theorem dX0_sizeBy_8 : decode cX0_sizeBy 8 = .ok (.getfield 37, 3) := by decide +kernel
theorem dX0_sizeBy_11 : decode cX0_sizeBy 11 = .ok (.aload_n 1, 1) := by decide +kernel
theorem dX0_sizeBy_12 : decode cX0_sizeBy 12 = .ok (.getfield 45, 3) := by decide +kernel
theorem dX0_sizeBy_15 : decode cX0_sizeBy 15 = .ok (.aload_n 1, 1) := by decide +kernel
theorem dX0_sizeBy_16 : decode cX0_sizeBy 16 = .ok (.getfield 49, 3) := by decide +kernel
theorem dX0_sizeBy_19 : decode cX0_sizeBy 19 = .ok (.aload_n 1, 1) := by decide +kernel
theorem dX0_sizeBy_20 : decode cX0_sizeBy 20 = .ok (.getfield 52, 3) := by decide +kernel
theorem dX0_sizeBy_23 : decode cX0_sizeBy 23 = .ok (.invokevirtual 55, 3) := by decide +kernel
theorem dX0_sizeBy_26 : decode cX0_sizeBy 26 = .ok (.ifCond .eq 11, 3) := by decide +kernel
theorem dX0_sizeBy_29 : decode cX0_sizeBy 29 = .ok (.aload_n 0, 1) := by decide +kernel
theorem dX0_sizeBy_30 : decode cX0_sizeBy 30 = .ok (.getfield 12, 3) := by decide +kernel
theorem dX0_sizeBy_33 : decode cX0_sizeBy 33 = .ok (.getfield 59, 3) := by decide +kernel
theorem dX0_sizeBy_36 : decode cX0_sizeBy 36 = .ok (.ireturn, 1) := by decide +kernel
theorem dX0_sizeBy_37 : decode cX0_sizeBy 37 = .ok (.aload_n 0, 1) := by decide +kernel
theorem dX0_sizeBy_38 : decode cX0_sizeBy 38 = .ok (.getfield 37, 3) := by decide +kernel
theorem dX0_sizeBy_41 : decode cX0_sizeBy 41 = .ok (.aload_n 1, 1) := by decide +kernel
theorem dX0_sizeBy_42 : decode cX0_sizeBy 42 = .ok (.invokevirtual 62, 3) := by decide +kernel
theorem dX0_sizeBy_45 : decode cX0_sizeBy 45 = .ok (.aload_n 0, 1) := by decide +kernel
theorem dX0_sizeBy_46 : decode cX0_sizeBy 46 = .ok (.iconst 1, 1) := by decide +kernel
theorem dX0_sizeBy_47 : decode cX0_sizeBy 47 = .ok (.putfield 41, 3) := by decide +kernel
theorem dX0_sizeBy_50 : decode cX0_sizeBy 50 = .ok (.iconst 0, 1) := by decide +kernel
theorem dX0_sizeBy_51 : decode cX0_sizeBy 51 = .ok (.istore_n 2, 1) := by decide +kernel
theorem dX0_sizeBy_52 : decode cX0_sizeBy 52 = .ok (.iconst 1, 1) := by decide +kernel
theorem dX0_sizeBy_53 : decode cX0_sizeBy 53 = .ok (.istore_n 3, 1) := by decide +kernel
theorem dX0_sizeBy_54 : decode cX0_sizeBy 54 = .ok (.iload_n 3, 1) := by decide +kernel
theorem dX0_sizeBy_55 : decode cX0_sizeBy 55 = .ok (.iconst 4, 1) := by decide +kernel
theorem dX0_sizeBy_56 : decode cX0_sizeBy 56 = .ok (.if_icmp .gt 29, 3) := by decide +kernel
theorem dX0_sizeBy_59 : decode cX0_sizeBy 59 = .ok (.iload_n 2, 1) := by decide +kernel
theorem dX0_sizeBy_60 : decode cX0_sizeBy 60 = .ok (.ifCond .ne 25, 3) := by decide +kernel
theorem dX0_sizeBy_63 : decode cX0_sizeBy 63 = .ok (.aload_n 0, 1) := by decide +kernel
theorem dX0_sizeBy_64 : decode cX0_sizeBy 64 = .ok (.getfield 37, 3) := by decide +kernel
theorem dX0_sizeBy_67 : decode cX0_sizeBy 67 = .ok (.invokevirtual 66, 3) := by decide +kernel
theorem dX0_sizeBy_70 : decode cX0_sizeBy 70 = .ok (.ifCond .ne 15, 3) := by decide +kernel
theorem dX0_sizeBy_73 : decode cX0_sizeBy 73 = .ok (.aload_n 0, 1) := by decide +kernel
theorem dX0_sizeBy_74 : decode cX0_sizeBy 74 = .ok (.iload_n 3, 1) := by decide +kernel
theorem dX0_sizeBy_75 : decode cX0_sizeBy 75 = .ok (.invokevirtual 70, 3) := by decide +kernel
theorem dX0_sizeBy_78 : decode cX0_sizeBy 78 = .ok (.istore_n 2, 1) := by decide +kernel
theorem dX0_sizeBy_79 : decode cX0_sizeBy 79 = .ok (.iinc 3 1, 3) := by decide +kernel
theorem dX0_sizeBy_82 : decode cX0_sizeBy 82 = .ok (.goto (-28), 3) := by decide +kernel
theorem dX0_sizeBy_85 : decode cX0_sizeBy 85 = .ok (.iload_n 2, 1) := by decide +kernel
theorem dX0_sizeBy_86 : decode cX0_sizeBy 86 = .ok (.ifCond .ne 10, 3) := by decide +kernel
theorem dX0_sizeBy_89 : decode cX0_sizeBy 89 = .ok (.aload_n 0, 1) := by decide +kernel
theorem dX0_sizeBy_90 : decode cX0_sizeBy 90 = .ok (.getfield 12, 3) := by decide +kernel
theorem dX0_sizeBy_93 : decode cX0_sizeBy 93 = .ok (.invokevirtual 74, 3) := by decide +kernel
theorem dX0_sizeBy_96 : decode cX0_sizeBy 96 = .ok (.aload_n 0, 1) := by decide +kernel
theorem dX0_sizeBy_97 : decode cX0_sizeBy 97 = .ok (.getfield 12, 3) := by decide +kernel
theorem dX0_sizeBy_100 : decode cX0_sizeBy 100 = .ok (.getfield 59, 3) := by decide +kernel
theorem dX0_sizeBy_103 : decode cX0_sizeBy 103 = .ok (.ireturn, 1) := by decide +kernel
theorem dX0_numberAt_0 : decode cX0_numberAt 0 = .ok (.aload_n 0, 1) := by decide +kernel
theorem dX0_numberAt_1 : decode cX0_numberAt 1 = .ok (.getfield 12, 3) := by decide +kernel
theorem dX0_numberAt_4 : decode cX0_numberAt 4 = .ok (.iload_n 1, 1) := by decide +kernel
theorem dX0_numberAt_5 : decode cX0_numberAt 5 = .ok (.invokevirtual 77, 3) := by decide +kernel
theorem dX0_numberAt_8 : decode cX0_numberAt 8 = .ok (.istore_n 2, 1) := by decide +kernel
theorem dX0_numberAt_9 : decode cX0_numberAt 9 = .ok (.iconst 4, 1) := by decide +kernel
theorem dX0_numberAt_10 : decode cX0_numberAt 10 = .ok (.iload_n 2, 1) := by decide +kernel
theorem dX0_numberAt_11 : decode cX0_numberAt 11 = .ok (.invokestatic 81, 3) := by decide +kernel
theorem dX0_numberAt_14 : decode cX0_numberAt 14 = .ok (.imul, 1) := by decide +kernel
theorem dX0_numberAt_15 : decode cX0_numberAt 15 = .ok (.iconst 2, 1) := by decide +kernel
theorem dX0_numberAt_16 : decode cX0_numberAt 16 = .ok (.iload_n 2, 1) := by decide +kernel
theorem dX0_numberAt_17 : decode cX0_numberAt 17 = .ok (.invokestatic 84, 3) := by decide +kernel
theorem dX0_numberAt_20 : decode cX0_numberAt 20 = .ok (.imul, 1) := by decide +kernel
theorem dX0_numberAt_21 : decode cX0_numberAt 21 = .ok (.iadd, 1) := by decide +kernel
theorem dX0_numberAt_22 : decode cX0_numberAt 22 = .ok (.iload_n 2, 1) := by decide +kernel
theorem dX0_numberAt_23 : decode cX0_numberAt 23 = .ok (.invokestatic 87, 3) := by decide +kernel
theorem dX0_numberAt_26 : decode cX0_numberAt 26 = .ok (.iadd, 1) := by decide +kernel
theorem dX0_numberAt_27 : decode cX0_numberAt 27 = .ok (.ireturn, 1) := by decide +kernel
theorem dX0_seekOfSize_0 : decode cX0_seekOfSize 0 = .ok (.iconst 1, 1) := by decide +kernel
theorem dX0_seekOfSize_1 : decode cX0_seekOfSize 1 = .ok (.iconst 3, 1) := by decide +kernel
theorem dX0_seekOfSize_2 : decode cX0_seekOfSize 2 = .ok (.iload_n 1, 1) := by decide +kernel
theorem dX0_seekOfSize_3 : decode cX0_seekOfSize 3 = .ok (.imul, 1) := by decide +kernel
theorem dX0_seekOfSize_4 : decode cX0_seekOfSize 4 = .ok (.ishl, 1) := by decide +kernel
theorem dX0_seekOfSize_5 : decode cX0_seekOfSize 5 = .ok (.istore_n 2, 1) := by decide +kernel
theorem dX0_seekOfSize_6 : decode cX0_seekOfSize 6 = .ok (.iconst 0, 1) := by decide +kernel
theorem dX0_seekOfSize_7 : decode cX0_seekOfSize 7 = .ok (.istore_n 3, 1) := by decide +kernel
theorem dX0_seekOfSize_8 : decode cX0_seekOfSize 8 = .ok (.iload_n 3, 1) := by decide +kernel
theorem dX0_seekOfSize_9 : decode cX0_seekOfSize 9 = .ok (.iload_n 2, 1) := by decide +kernel
theorem dX0_seekOfSize_10 : decode cX0_seekOfSize 10 = .ok (.if_icmp .ge 68, 3) := by decide +kernel
theorem dX0_seekOfSize_13 : decode cX0_seekOfSize 13 = .ok (.aload_n 0, 1) := by decide +kernel
theorem dX0_seekOfSize_14 : decode cX0_seekOfSize 14 = .ok (.iload_n 1, 1) := by decide +kernel
theorem dX0_seekOfSize_15 : decode cX0_seekOfSize 15 = .ok (.iload_n 3, 1) := by decide +kernel
theorem dX0_seekOfSize_16 : decode cX0_seekOfSize 16 = .ok (.invokevirtual 90, 3) := by decide +kernel
theorem dX0_seekOfSize_19 : decode cX0_seekOfSize 19 = .ok (.aload_n 0, 1) := by decide +kernel
theorem dX0_seekOfSize_20 : decode cX0_seekOfSize 20 = .ok (.getfield 23, 3) := by decide +kernel
theorem dX0_seekOfSize_23 : decode cX0_seekOfSize 23 = .ok (.invokevirtual 94, 3) := by decide +kernel
theorem dX0_seekOfSize_26 : decode cX0_seekOfSize 26 = .ok (.aload_n 0, 1) := by decide +kernel
theorem dX0_seekOfSize_27 : decode cX0_seekOfSize 27 = .ok (.getfield 30, 3) := by decide +kernel
theorem dX0_seekOfSize_30 : decode cX0_seekOfSize 30 = .ok (.aload_n 0, 1) := by decide +kernel
theorem dX0_seekOfSize_31 : decode cX0_seekOfSize 31 = .ok (.getfield 12, 3) := by decide +kernel
theorem dX0_seekOfSize_34 : decode cX0_seekOfSize 34 = .ok (.aload_n 0, 1) := by decide +kernel
theorem dX0_seekOfSize_35 : decode cX0_seekOfSize 35 = .ok (.getfield 23, 3) := by decide +kernel
theorem dX0_seekOfSize_38 : decode cX0_seekOfSize 38 = .ok (.invokevirtual 97, 3) := by decide +kernel
theorem dX0_seekOfSize_41 : decode cX0_seekOfSize 41 = .ok (.aload_n 0, 1) := by decide +kernel
theorem dX0_seekOfSize_42 : decode cX0_seekOfSize 42 = .ok (.getfield 30, 3) := by decide +kernel
theorem dX0_seekOfSize_45 : decode cX0_seekOfSize 45 = .ok (.aload_n 0, 1) := by decide +kernel
theorem dX0_seekOfSize_46 : decode cX0_seekOfSize 46 = .ok (.getfield 12, 3) := by decide +kernel
theorem dX0_seekOfSize_49 : decode cX0_seekOfSize 49 = .ok (.aload_n 0, 1) := by decide +kernel
theorem dX0_seekOfSize_50 : decode cX0_seekOfSize 50 = .ok (.getfield 37, 3) := by decide +kernel
theorem dX0_seekOfSize_53 : decode cX0_seekOfSize 53 = .ok (.aload_n 0, 1) := by decide +kernel
theorem dX0_seekOfSize_54 : decode cX0_seekOfSize 54 = .ok (.getfield 23, 3) := by decide +kernel
theorem dX0_seekOfSize_57 : decode cX0_seekOfSize 57 = .ok (.invokevirtual 101, 3) := by decide +kernel
theorem dX0_seekOfSize_60 : decode cX0_seekOfSize 60 = .ok (.aload_n 0, 1) := by decide +kernel
theorem dX0_seekOfSize_61 : decode cX0_seekOfSize 61 = .ok (.getfield 30, 3) := by decide +kernel
theorem dX0_seekOfSize_64 : decode cX0_seekOfSize 64 = .ok (.invokevirtual 105, 3) := by decide +kernel
theorem dX0_seekOfSize_67 : decode cX0_seekOfSize 67 = .ok (.ifCond .eq 5, 3) := by decide +kernel
theorem dX0_seekOfSize_70 : decode cX0_seekOfSize 70 = .ok (.iconst 1, 1) := by decide +kernel
theorem dX0_seekOfSize_71 : decode cX0_seekOfSize 71 = .ok (.ireturn, 1) := by decide +kernel
theorem dX0_seekOfSize_72 : decode cX0_seekOfSize 72 = .ok (.iinc 3 1, 3) := by decide +kernel
theorem dX0_seekOfSize_75 : decode cX0_seekOfSize 75 = .ok (.goto (-67), 3) := by decide +kernel
theorem dX0_seekOfSize_78 : decode cX0_seekOfSize 78 = .ok (.iconst 0, 1) := by decide +kernel
theorem dX0_seekOfSize_79 : decode cX0_seekOfSize 79 = .ok (.ireturn, 1) := by decide +kernel
theorem dX0_writeProgram_0 : decode cX0_writeProgram 0 = .ok (.aload_n 0, 1) := by decide +kernel
theorem dX0_writeProgram_1 : decode cX0_writeProgram 1 = .ok (.getfield 12, 3) := by decide +kernel
theorem dX0_writeProgram_4 : decode cX0_writeProgram 4 = .ok (.invokevirtual 74, 3) := by decide +kernel
theorem dX0_writeProgram_7 : decode cX0_writeProgram 7 = .ok (.iconst 0, 1) := by decide +kernel
theorem dX0_writeProgram_8 : decode cX0_writeProgram 8 = .ok (.istore_n 3, 1) := by decide +kernel
theorem dX0_writeProgram_9 : decode cX0_writeProgram 9 = .ok (.iload_n 3, 1) := by decide +kernel
theorem dX0_writeProgram_10 : decode cX0_writeProgram 10 = .ok (.iload_n 1, 1) := by decide +kernel
theorem dX0_writeProgram_11 : decode cX0_writeProgram 11 = .ok (.if_icmp .ge 51, 3) := by decide +kernel
theorem dX0_writeProgram_14 : decode cX0_writeProgram 14 = .ok (.iload_n 2, 1) := by decide +kernel
theorem dX0_writeProgram_15 : decode cX0_writeProgram 15 = .ok (.iconst 3, 1) := by decide +kernel
theorem dX0_writeProgram_16 : decode cX0_writeProgram 16 = .ok (.iload_n 1, 1) := by decide +kernel
theorem dX0_writeProgram_17 : decode cX0_writeProgram 17 = .ok (.iconst 1, 1) := by decide +kernel
theorem dX0_writeProgram_18 : decode cX0_writeProgram 18 = .ok (.isub, 1) := by decide +kernel
theorem dX0_writeProgram_19 : decode cX0_writeProgram 19 = .ok (.iload_n 3, 1) := by decide +kernel
theorem dX0_writeProgram_20 : decode cX0_writeProgram 20 = .ok (.isub, 1) := by decide +kernel
theorem dX0_writeProgram_21 : decode cX0_writeProgram 21 = .ok (.imul, 1) := by decide +kernel
theorem dX0_writeProgram_22 : decode cX0_writeProgram 22 = .ok (.ishr, 1) := by decide +kernel
theorem dX0_writeProgram_23 : decode cX0_writeProgram 23 = .ok (.bipush 7, 2) := by decide +kernel
theorem dX0_writeProgram_25 : decode cX0_writeProgram 25 = .ok (.iand, 1) := by decide +kernel
theorem dX0_writeProgram_26 : decode cX0_writeProgram 26 = .ok (.istore 4, 2) := by decide +kernel
theorem dX0_writeProgram_28 : decode cX0_writeProgram 28 = .ok (.aload_n 0, 1) := by decide +kernel
theorem dX0_writeProgram_29 : decode cX0_writeProgram 29 = .ok (.getfield 12, 3) := by decide +kernel
theorem dX0_writeProgram_32 : decode cX0_writeProgram 32 = .ok (.iload_n 3, 1) := by decide +kernel
theorem dX0_writeProgram_33 : decode cX0_writeProgram 33 = .ok (.iconst 2, 1) := by decide +kernel
theorem dX0_writeProgram_34 : decode cX0_writeProgram 34 = .ok (.iload 4, 2) := by decide +kernel
theorem dX0_writeProgram_36 : decode cX0_writeProgram 36 = .ok (.iconst 2, 1) := by decide +kernel
theorem dX0_writeProgram_37 : decode cX0_writeProgram 37 = .ok (.ishr, 1) := by decide +kernel
theorem dX0_writeProgram_38 : decode cX0_writeProgram 38 = .ok (.iconst 1, 1) := by decide +kernel
theorem dX0_writeProgram_39 : decode cX0_writeProgram 39 = .ok (.iand, 1) := by decide +kernel
theorem dX0_writeProgram_40 : decode cX0_writeProgram 40 = .ok (.iload 4, 2) := by decide +kernel
theorem dX0_writeProgram_42 : decode cX0_writeProgram 42 = .ok (.iconst 1, 1) := by decide +kernel
theorem dX0_writeProgram_43 : decode cX0_writeProgram 43 = .ok (.ishr, 1) := by decide +kernel
theorem dX0_writeProgram_44 : decode cX0_writeProgram 44 = .ok (.iconst 1, 1) := by decide +kernel
theorem dX0_writeProgram_45 : decode cX0_writeProgram 45 = .ok (.iand, 1) := by decide +kernel
theorem dX0_writeProgram_46 : decode cX0_writeProgram 46 = .ok (.iload 4, 2) := by decide +kernel
theorem dX0_writeProgram_48 : decode cX0_writeProgram 48 = .ok (.iconst 1, 1) := by decide +kernel
theorem dX0_writeProgram_49 : decode cX0_writeProgram 49 = .ok (.iand, 1) := by decide +kernel
theorem dX0_writeProgram_50 : decode cX0_writeProgram 50 = .ok (.invokestatic 109, 3) := by decide +kernel
theorem dX0_writeProgram_53 : decode cX0_writeProgram 53 = .ok (.invokevirtual 113, 3) := by decide +kernel
theorem dX0_writeProgram_56 : decode cX0_writeProgram 56 = .ok (.iinc 3 1, 3) := by decide +kernel
theorem dX0_writeProgram_59 : decode cX0_writeProgram 59 = .ok (.goto (-50), 3) := by decide +kernel
theorem dX0_writeProgram_62 : decode cX0_writeProgram 62 = .ok (.return_, 1) := by decide +kernel
theorem dX1_init_0 : decode cX1_init 0 = .ok (.aload_n 0, 1) := by decide +kernel
theorem dX1_init_1 : decode cX1_init 1 = .ok (.invokespecial 3, 3) := by decide +kernel
theorem dX1_init_4 : decode cX1_init 4 = .ok (.aload_n 0, 1) := by decide +kernel
theorem dX1_init_5 : decode cX1_init 5 = .ok (.bipush 116, 2) := by decide +kernel
theorem dX1_init_7 : decode cX1_init 7 = .ok (.newarray .int, 2) := by decide +kernel
theorem dX1_init_9 : decode cX1_init 9 = .ok (.putfield 9, 3) := by decide +kernel
theorem dX1_init_12 : decode cX1_init 12 = .ok (.aload_n 0, 1) := by decide +kernel
theorem dX1_init_13 : decode cX1_init 13 = .ok (.bipush 116, 2) := by decide +kernel
theorem dX1_init_15 : decode cX1_init 15 = .ok (.newarray .int, 2) := by decide +kernel
theorem dX1_init_17 : decode cX1_init 17 = .ok (.putfield 15, 3) := by decide +kernel
theorem dX1_init_20 : decode cX1_init 20 = .ok (.aload_n 0, 1) := by decide +kernel
theorem dX1_init_21 : decode cX1_init 21 = .ok (.bipush 116, 2) := by decide +kernel
theorem dX1_init_23 : decode cX1_init 23 = .ok (.newarray .int, 2) := by decide +kernel
theorem dX1_init_25 : decode cX1_init 25 = .ok (.putfield 18, 3) := by decide +kernel
theorem dX1_init_28 : decode cX1_init 28 = .ok (.return_, 1) := by decide +kernel
theorem dX1_closeBy_0 : decode cX1_closeBy 0 = .ok (.aload_n 0, 1) := by decide +kernel
theorem dX1_closeBy_1 : decode cX1_closeBy 1 = .ok (.aload_n 1, 1) := by decide +kernel
theorem dX1_closeBy_2 : decode cX1_closeBy 2 = .ok (.getfield 21, 3) := by decide +kernel
theorem dX1_closeBy_5 : decode cX1_closeBy 5 = .ok (.putfield 27, 3) := by decide +kernel
theorem dX1_closeBy_8 : decode cX1_closeBy 8 = .ok (.aload_n 0, 1) := by decide +kernel
theorem dX1_closeBy_9 : decode cX1_closeBy 9 = .ok (.aload_n 0, 1) := by decide +kernel
theorem dX1_closeBy_10 : decode cX1_closeBy 10 = .ok (.getfield 27, 3) := by decide +kernel
theorem dX1_closeBy_13 : decode cX1_closeBy 13 = .ok (.getfield 28, 3) := by decide +kernel
theorem dX1_closeBy_16 : decode cX1_closeBy 16 = .ok (.bipush 116, 2) := by decide +kernel
theorem dX1_closeBy_18 : decode cX1_closeBy 18 = .ok (.invokestatic 34, 3) := by decide +kernel
theorem dX1_closeBy_21 : decode cX1_closeBy 21 = .ok (.putfield 40, 3) := by decide +kernel
theorem dX1_closeBy_24 : decode cX1_closeBy 24 = .ok (.iconst 0, 1) := by decide +kernel
theorem dX1_closeBy_25 : decode cX1_closeBy 25 = .ok (.istore_n 3, 1) := by decide +kernel
theorem dX1_closeBy_26 : decode cX1_closeBy 26 = .ok (.iload_n 3, 1) := by decide +kernel
theorem dX1_closeBy_27 : decode cX1_closeBy 27 = .ok (.aload_n 0, 1) := by decide +kernel
theorem dX1_closeBy_28 : decode cX1_closeBy 28 = .ok (.getfield 40, 3) := by decide +kernel
theorem dX1_closeBy_31 : decode cX1_closeBy 31 = .ok (.if_icmp .ge 16, 3) := by decide +kernel
theorem dX1_closeBy_34 : decode cX1_closeBy 34 = .ok (.aload_n 0, 1) := by decide +kernel
theorem dX1_closeBy_35 : decode cX1_closeBy 35 = .ok (.getfield 9, 3) := by decide +kernel
theorem dX1_closeBy_38 : decode cX1_closeBy 38 = .ok (.iload_n 3, 1) := by decide +kernel
theorem dX1_closeBy_39 : decode cX1_closeBy 39 = .ok (.iload_n 3, 1) := by decide +kernel
theorem dX1_closeBy_40 : decode cX1_closeBy 40 = .ok (.iastore, 1) := by decide +kernel
theorem dX1_closeBy_41 : decode cX1_closeBy 41 = .ok (.iinc 3 1, 3) := by decide +kernel
theorem dX1_closeBy_44 : decode cX1_closeBy 44 = .ok (.goto (-18), 3) := by decide +kernel
theorem dX1_closeBy_47 : decode cX1_closeBy 47 = .ok (.iconst 0, 1) := by decide +kernel
theorem dX1_closeBy_48 : decode cX1_closeBy 48 = .ok (.istore_n 3, 1) := by decide +kernel
theorem dX1_closeBy_49 : decode cX1_closeBy 49 = .ok (.iload_n 3, 1) := by decide +kernel
theorem dX1_closeBy_50 : decode cX1_closeBy 50 = .ok (.aload_n 1, 1) := by decide +kernel
theorem dX1_closeBy_51 : decode cX1_closeBy 51 = .ok (.getfield 41, 3) := by decide +kernel
theorem dX1_closeBy_54 : decode cX1_closeBy 54 = .ok (.if_icmp .ge 41, 3) := by decide +kernel
theorem dX1_closeBy_57 : decode cX1_closeBy 57 = .ok (.iload_n 2, 1) := by decide +kernel
theorem dX1_closeBy_58 : decode cX1_closeBy 58 = .ok (.iload_n 3, 1) := by decide +kernel
theorem dX1_closeBy_59 : decode cX1_closeBy 59 = .ok (.ishr, 1) := by decide +kernel
theorem dX1_closeBy_60 : decode cX1_closeBy 60 = .ok (.iconst 1, 1) := by decide +kernel
theorem dX1_closeBy_61 : decode cX1_closeBy 61 = .ok (.iand, 1) := by decide +kernel
theorem dX1_closeBy_62 : decode cX1_closeBy 62 = .ok (.iconst 1, 1) := by decide +kernel
theorem dX1_closeBy_63 : decode cX1_closeBy 63 = .ok (.if_icmp .ne 26, 3) := by decide +kernel
theorem dX1_closeBy_66 : decode cX1_closeBy 66 = .ok (.aload_n 1, 1) := by decide +kernel
theorem dX1_closeBy_67 : decode cX1_closeBy 67 = .ok (.getfield 44, 3) := by decide +kernel
theorem dX1_closeBy_70 : decode cX1_closeBy 70 = .ok (.iload_n 3, 1) := by decide +kernel
theorem dX1_closeBy_71 : decode cX1_closeBy 71 = .ok (.baload, 1) := by decide +kernel
theorem dX1_closeBy_72 : decode cX1_closeBy 72 = .ok (.ifCond .eq 17, 3) := by decide +kernel
theorem dX1_closeBy_75 : decode cX1_closeBy 75 = .ok (.aload_n 0, 1) := by decide +kernel
theorem dX1_closeBy_76 : decode cX1_closeBy 76 = .ok (.aload_n 1, 1) := by decide +kernel
theorem dX1_closeBy_77 : decode cX1_closeBy 77 = .ok (.iload_n 3, 1) := by decide +kernel
theorem dX1_closeBy_78 : decode cX1_closeBy 78 = .ok (.invokevirtual 48, 3) := by decide +kernel
theorem dX1_closeBy_81 : decode cX1_closeBy 81 = .ok (.aload_n 1, 1) := by decide +kernel
theorem dX1_closeBy_82 : decode cX1_closeBy 82 = .ok (.iload_n 3, 1) := by decide +kernel
theorem dX1_closeBy_83 : decode cX1_closeBy 83 = .ok (.invokevirtual 52, 3) := by decide +kernel
theorem dX1_closeBy_86 : decode cX1_closeBy 86 = .ok (.invokevirtual 55, 3) := by decide +kernel
theorem dX1_closeBy_89 : decode cX1_closeBy 89 = .ok (.iinc 3 1, 3) := by decide +kernel
theorem dX1_closeBy_92 : decode cX1_closeBy 92 = .ok (.goto (-43), 3) := by decide +kernel
theorem dX1_closeBy_95 : decode cX1_closeBy 95 = .ok (.aload_n 0, 1) := by decide +kernel
theorem dX1_closeBy_96 : decode cX1_closeBy 96 = .ok (.invokevirtual 59, 3) := by decide +kernel
theorem dX1_closeBy_99 : decode cX1_closeBy 99 = .ok (.return_, 1) := by decide +kernel
theorem dX1_assume_0 : decode cX1_assume 0 = .ok (.aload_n 0, 1) := by decide +kernel
theorem dX1_assume_1 : decode cX1_assume 1 = .ok (.iload_n 1, 1) := by decide +kernel
theorem dX1_assume_2 : decode cX1_assume 2 = .ok (.iload_n 2, 1) := by decide +kernel
theorem dX1_assume_3 : decode cX1_assume 3 = .ok (.invokevirtual 55, 3) := by decide +kernel
theorem dX1_assume_6 : decode cX1_assume 6 = .ok (.aload_n 0, 1) := by decide +kernel
theorem dX1_assume_7 : decode cX1_assume 7 = .ok (.invokevirtual 59, 3) := by decide +kernel
theorem dX1_assume_10 : decode cX1_assume 10 = .ok (.return_, 1) := by decide +kernel
theorem dX1_same_0 : decode cX1_same 0 = .ok (.iload_n 1, 1) := by decide +kernel
theorem dX1_same_1 : decode cX1_same 1 = .ok (.ifCond .lt 42, 3) := by decide +kernel
theorem dX1_same_4 : decode cX1_same 4 = .ok (.iload_n 1, 1) := by decide +kernel
theorem dX1_same_5 : decode cX1_same 5 = .ok (.aload_n 0, 1) := by decide +kernel
theorem dX1_same_6 : decode cX1_same 6 = .ok (.getfield 40, 3) := by decide +kernel
theorem dX1_same_9 : decode cX1_same 9 = .ok (.if_icmp .ge 34, 3) := by decide +kernel
theorem dX1_same_12 : decode cX1_same 12 = .ok (.iload_n 2, 1) := by decide +kernel
theorem dX1_same_13 : decode cX1_same 13 = .ok (.ifCond .lt 30, 3) := by decide +kernel
theorem dX1_same_16 : decode cX1_same 16 = .ok (.iload_n 2, 1) := by decide +kernel
theorem dX1_same_17 : decode cX1_same 17 = .ok (.aload_n 0, 1) := by decide +kernel
theorem dX1_same_18 : decode cX1_same 18 = .ok (.getfield 40, 3) := by decide +kernel
theorem dX1_same_21 : decode cX1_same 21 = .ok (.if_icmp .ge 22, 3) := by decide +kernel
theorem dX1_same_24 : decode cX1_same 24 = .ok (.aload_n 0, 1) := by decide +kernel
theorem dX1_same_25 : decode cX1_same 25 = .ok (.getfield 9, 3) := by decide +kernel
theorem dX1_same_28 : decode cX1_same 28 = .ok (.iload_n 1, 1) := by decide +kernel
theorem dX1_same_29 : decode cX1_same 29 = .ok (.iaload, 1) := by decide +kernel
theorem dX1_same_30 : decode cX1_same 30 = .ok (.aload_n 0, 1) := by decide +kernel
theorem dX1_same_31 : decode cX1_same 31 = .ok (.getfield 9, 3) := by decide +kernel
theorem dX1_same_34 : decode cX1_same 34 = .ok (.iload_n 2, 1) := by decide +kernel
theorem dX1_same_35 : decode cX1_same 35 = .ok (.iaload, 1) := by decide +kernel
theorem dX1_same_36 : decode cX1_same 36 = .ok (.if_icmp .ne 7, 3) := by decide +kernel
theorem dX1_same_39 : decode cX1_same 39 = .ok (.iconst 1, 1) := by decide +kernel
theorem dX1_same_40 : decode cX1_same 40 = .ok (.goto 4, 3) := by decide +kernel
theorem dX1_same_43 : decode cX1_same 43 = .ok (.iconst 0, 1) := by decide +kernel
theorem dX1_same_44 : decode cX1_same 44 = .ok (.ireturn, 1) := by decide +kernel
theorem dX1_rulesOut_0 : decode cX1_rulesOut 0 = .ok (.iconst 0, 1) := by decide +kernel
theorem dX1_rulesOut_1 : decode cX1_rulesOut 1 = .ok (.istore_n 3, 1) := by decide +kernel
theorem dX1_rulesOut_2 : decode cX1_rulesOut 2 = .ok (.iload_n 3, 1) := by decide +kernel
theorem dX1_rulesOut_3 : decode cX1_rulesOut 3 = .ok (.aload_n 1, 1) := by decide +kernel
theorem dX1_rulesOut_4 : decode cX1_rulesOut 4 = .ok (.getfield 41, 3) := by decide +kernel
theorem dX1_rulesOut_7 : decode cX1_rulesOut 7 = .ok (.if_icmp .ge 46, 3) := by decide +kernel
theorem dX1_rulesOut_10 : decode cX1_rulesOut 10 = .ok (.iload_n 2, 1) := by decide +kernel
theorem dX1_rulesOut_11 : decode cX1_rulesOut 11 = .ok (.iload_n 3, 1) := by decide +kernel
theorem dX1_rulesOut_12 : decode cX1_rulesOut 12 = .ok (.ishr, 1) := by decide +kernel
theorem dX1_rulesOut_13 : decode cX1_rulesOut 13 = .ok (.iconst 1, 1) := by decide +kernel
theorem dX1_rulesOut_14 : decode cX1_rulesOut 14 = .ok (.iand, 1) := by decide +kernel
theorem dX1_rulesOut_15 : decode cX1_rulesOut 15 = .ok (.iconst 1, 1) := by decide +kernel
theorem dX1_rulesOut_16 : decode cX1_rulesOut 16 = .ok (.if_icmp .ne 31, 3) := by decide +kernel
theorem dX1_rulesOut_19 : decode cX1_rulesOut 19 = .ok (.aload_n 1, 1) := by decide +kernel
theorem dX1_rulesOut_20 : decode cX1_rulesOut 20 = .ok (.getfield 44, 3) := by decide +kernel
theorem dX1_rulesOut_23 : decode cX1_rulesOut 23 = .ok (.iload_n 3, 1) := by decide +kernel
theorem dX1_rulesOut_24 : decode cX1_rulesOut 24 = .ok (.baload, 1) := by decide +kernel
theorem dX1_rulesOut_25 : decode cX1_rulesOut 25 = .ok (.ifCond .ne 22, 3) := by decide +kernel
theorem dX1_rulesOut_28 : decode cX1_rulesOut 28 = .ok (.aload_n 0, 1) := by decide +kernel
theorem dX1_rulesOut_29 : decode cX1_rulesOut 29 = .ok (.aload_n 1, 1) := by decide +kernel
theorem dX1_rulesOut_30 : decode cX1_rulesOut 30 = .ok (.iload_n 3, 1) := by decide +kernel
theorem dX1_rulesOut_31 : decode cX1_rulesOut 31 = .ok (.invokevirtual 48, 3) := by decide +kernel
theorem dX1_rulesOut_34 : decode cX1_rulesOut 34 = .ok (.aload_n 1, 1) := by decide +kernel
theorem dX1_rulesOut_35 : decode cX1_rulesOut 35 = .ok (.iload_n 3, 1) := by decide +kernel
theorem dX1_rulesOut_36 : decode cX1_rulesOut 36 = .ok (.invokevirtual 52, 3) := by decide +kernel
theorem dX1_rulesOut_39 : decode cX1_rulesOut 39 = .ok (.invokevirtual 62, 3) := by decide +kernel
theorem dX1_rulesOut_42 : decode cX1_rulesOut 42 = .ok (.ifCond .eq 5, 3) := by decide +kernel
theorem dX1_rulesOut_45 : decode cX1_rulesOut 45 = .ok (.iconst 1, 1) := by decide +kernel
theorem dX1_rulesOut_46 : decode cX1_rulesOut 46 = .ok (.ireturn, 1) := by decide +kernel
theorem dX1_rulesOut_47 : decode cX1_rulesOut 47 = .ok (.iinc 3 1, 3) := by decide +kernel
theorem dX1_rulesOut_50 : decode cX1_rulesOut 50 = .ok (.goto (-48), 3) := by decide +kernel
theorem dX1_rulesOut_53 : decode cX1_rulesOut 53 = .ok (.iconst 0, 1) := by decide +kernel
theorem dX1_rulesOut_54 : decode cX1_rulesOut 54 = .ok (.ireturn, 1) := by decide +kernel
theorem dX1_merge_0 : decode cX1_merge 0 = .ok (.iload_n 1, 1) := by decide +kernel
theorem dX1_merge_1 : decode cX1_merge 1 = .ok (.ifCond .lt 23, 3) := by decide +kernel
theorem dX1_merge_4 : decode cX1_merge 4 = .ok (.iload_n 1, 1) := by decide +kernel
theorem dX1_merge_5 : decode cX1_merge 5 = .ok (.aload_n 0, 1) := by decide +kernel
theorem dX1_merge_6 : decode cX1_merge 6 = .ok (.getfield 40, 3) := by decide +kernel
theorem dX1_merge_9 : decode cX1_merge 9 = .ok (.if_icmp .ge 15, 3) := by decide +kernel
theorem dX1_merge_12 : decode cX1_merge 12 = .ok (.iload_n 2, 1) := by decide +kernel
theorem dX1_merge_13 : decode cX1_merge 13 = .ok (.ifCond .lt 11, 3) := by decide +kernel
theorem dX1_merge_16 : decode cX1_merge 16 = .ok (.iload_n 2, 1) := by decide +kernel
theorem dX1_merge_17 : decode cX1_merge 17 = .ok (.aload_n 0, 1) := by decide +kernel
theorem dX1_merge_18 : decode cX1_merge 18 = .ok (.getfield 40, 3) := by decide +kernel
theorem dX1_merge_21 : decode cX1_merge 21 = .ok (.if_icmp .lt 4, 3) := by decide +kernel
theorem dX1_merge_24 : decode cX1_merge 24 = .ok (.return_, 1) := by decide +kernel
theorem dX1_merge_25 : decode cX1_merge 25 = .ok (.aload_n 0, 1) := by decide +kernel
theorem dX1_merge_26 : decode cX1_merge 26 = .ok (.getfield 9, 3) := by decide +kernel
theorem dX1_merge_29 : decode cX1_merge 29 = .ok (.iload_n 1, 1) := by decide +kernel
theorem dX1_merge_30 : decode cX1_merge 30 = .ok (.iaload, 1) := by decide +kernel
theorem dX1_merge_31 : decode cX1_merge 31 = .ok (.istore_n 3, 1) := by decide +kernel
theorem dX1_merge_32 : decode cX1_merge 32 = .ok (.aload_n 0, 1) := by decide +kernel
theorem dX1_merge_33 : decode cX1_merge 33 = .ok (.getfield 9, 3) := by decide +kernel
theorem dX1_merge_36 : decode cX1_merge 36 = .ok (.iload_n 2, 1) := by decide +kernel
theorem dX1_merge_37 : decode cX1_merge 37 = .ok (.iaload, 1) := by decide +kernel
theorem dX1_merge_38 : decode cX1_merge 38 = .ok (.istore 4, 2) := by decide +kernel
theorem dX1_merge_40 : decode cX1_merge 40 = .ok (.iconst 0, 1) := by decide +kernel
theorem dX1_merge_41 : decode cX1_merge 41 = .ok (.istore 5, 2) := by decide +kernel
theorem dX1_merge_43 : decode cX1_merge 43 = .ok (.iload 5, 2) := by decide +kernel
theorem dX1_merge_45 : decode cX1_merge 45 = .ok (.aload_n 0, 1) := by decide +kernel
theorem dX1_merge_46 : decode cX1_merge 46 = .ok (.getfield 40, 3) := by decide +kernel
theorem dX1_merge_49 : decode cX1_merge 49 = .ok (.if_icmp .ge 35, 3) := by decide +kernel
theorem dX1_merge_52 : decode cX1_merge 52 = .ok (.iload_n 3, 1) := by decide +kernel
theorem dX1_merge_53 : decode cX1_merge 53 = .ok (.iload 4, 2) := by decide +kernel
theorem dX1_merge_55 : decode cX1_merge 55 = .ok (.if_icmp .eq 29, 3) := by decide +kernel
theorem dX1_merge_58 : decode cX1_merge 58 = .ok (.aload_n 0, 1) := by decide +kernel
theorem dX1_merge_59 : decode cX1_merge 59 = .ok (.getfield 9, 3) := by decide +kernel
theorem dX1_merge_62 : decode cX1_merge 62 = .ok (.iload 5, 2) := by decide +kernel
theorem dX1_merge_64 : decode cX1_merge 64 = .ok (.iaload, 1) := by decide +kernel
theorem dX1_merge_65 : decode cX1_merge 65 = .ok (.iload 4, 2) := by decide +kernel
theorem dX1_merge_67 : decode cX1_merge 67 = .ok (.if_icmp .ne 11, 3) := by decide +kernel
theorem dX1_merge_70 : decode cX1_merge 70 = .ok (.aload_n 0, 1) := by decide +kernel
theorem dX1_merge_71 : decode cX1_merge 71 = .ok (.getfield 9, 3) := by decide +kernel
theorem dX1_merge_74 : decode cX1_merge 74 = .ok (.iload 5, 2) := by decide +kernel
theorem dX1_merge_76 : decode cX1_merge 76 = .ok (.iload_n 3, 1) := by decide +kernel
theorem dX1_merge_77 : decode cX1_merge 77 = .ok (.iastore, 1) := by decide +kernel
theorem dX1_merge_78 : decode cX1_merge 78 = .ok (.iinc 5 1, 3) := by decide +kernel
theorem dX1_merge_81 : decode cX1_merge 81 = .ok (.goto (-38), 3) := by decide +kernel
theorem dX1_merge_84 : decode cX1_merge 84 = .ok (.return_, 1) := by decide +kernel
theorem dX1_spread_0 : decode cX1_spread 0 = .ok (.aload_n 0, 1) := by decide +kernel
theorem dX1_spread_1 : decode cX1_spread 1 = .ok (.getfield 27, 3) := by decide +kernel
theorem dX1_spread_4 : decode cX1_spread 4 = .ok (.ifnull 7, 3) := by decide +kernel
theorem dX1_spread_7 : decode cX1_spread 7 = .ok (.iconst 1, 1) := by decide +kernel
theorem dX1_spread_8 : decode cX1_spread 8 = .ok (.goto 4, 3) := by decide +kernel
theorem dX1_spread_11 : decode cX1_spread 11 = .ok (.iconst 0, 1) := by decide +kernel
theorem dX1_spread_12 : decode cX1_spread 12 = .ok (.istore_n 1, 1) := by decide +kernel
theorem dX1_spread_13 : decode cX1_spread 13 = .ok (.iconst 0, 1) := by decide +kernel
theorem dX1_spread_14 : decode cX1_spread 14 = .ok (.istore_n 2, 1) := by decide +kernel
theorem dX1_spread_15 : decode cX1_spread 15 = .ok (.iload_n 2, 1) := by decide +kernel
theorem dX1_spread_16 : decode cX1_spread 16 = .ok (.bipush 116, 2) := by decide +kernel
theorem dX1_spread_18 : decode cX1_spread 18 = .ok (.if_icmp .gt 18, 3) := by decide +kernel
theorem dX1_spread_21 : decode cX1_spread 21 = .ok (.iload_n 1, 1) := by decide +kernel
theorem dX1_spread_22 : decode cX1_spread 22 = .ok (.ifCond .eq 14, 3) := by decide +kernel
theorem dX1_spread_25 : decode cX1_spread 25 = .ok (.aload_n 0, 1) := by decide +kernel
theorem dX1_spread_26 : decode cX1_spread 26 = .ok (.invokevirtual 66, 3) := by decide +kernel
theorem dX1_spread_29 : decode cX1_spread 29 = .ok (.istore_n 1, 1) := by decide +kernel
theorem dX1_spread_30 : decode cX1_spread 30 = .ok (.iinc 2 1, 3) := by decide +kernel
theorem dX1_spread_33 : decode cX1_spread 33 = .ok (.goto (-18), 3) := by decide +kernel
theorem dX1_spread_36 : decode cX1_spread 36 = .ok (.return_, 1) := by decide +kernel
theorem dX1_spreadOnce_0 : decode cX1_spreadOnce 0 = .ok (.iconst 0, 1) := by decide +kernel
theorem dX1_spreadOnce_1 : decode cX1_spreadOnce 1 = .ok (.istore_n 1, 1) := by decide +kernel
theorem dX1_spreadOnce_2 : decode cX1_spreadOnce 2 = .ok (.aload_n 0, 1) := by decide +kernel
theorem dX1_spreadOnce_3 : decode cX1_spreadOnce 3 = .ok (.getfield 15, 3) := by decide +kernel
theorem dX1_spreadOnce_6 : decode cX1_spreadOnce 6 = .ok (.iconst (-1), 1) := by decide +kernel
theorem dX1_spreadOnce_7 : decode cX1_spreadOnce 7 = .ok (.invokestatic 70, 3) := by decide +kernel
theorem dX1_spreadOnce_10 : decode cX1_spreadOnce 10 = .ok (.iconst 4, 1) := by decide +kernel
theorem dX1_spreadOnce_11 : decode cX1_spreadOnce 11 = .ok (.istore_n 2, 1) := by decide +kernel
theorem dX1_spreadOnce_12 : decode cX1_spreadOnce 12 = .ok (.iload_n 2, 1) := by decide +kernel
theorem dX1_spreadOnce_13 : decode cX1_spreadOnce 13 = .ok (.aload_n 0, 1) := by decide +kernel
theorem dX1_spreadOnce_14 : decode cX1_spreadOnce 14 = .ok (.getfield 40, 3) := by decide +kernel
theorem dX1_spreadOnce_17 : decode cX1_spreadOnce 17 = .ok (.if_icmp .ge 90, 3) := by decide +kernel
theorem dX1_spreadOnce_20 : decode cX1_spreadOnce 20 = .ok (.aload_n 0, 1) := by decide +kernel
theorem dX1_spreadOnce_21 : decode cX1_spreadOnce 21 = .ok (.getfield 9, 3) := by decide +kernel
theorem dX1_spreadOnce_24 : decode cX1_spreadOnce 24 = .ok (.aload_n 0, 1) := by decide +kernel
theorem dX1_spreadOnce_25 : decode cX1_spreadOnce 25 = .ok (.getfield 27, 3) := by decide +kernel
theorem dX1_spreadOnce_28 : decode cX1_spreadOnce 28 = .ok (.getfield 76, 3) := by decide +kernel
theorem dX1_spreadOnce_31 : decode cX1_spreadOnce 31 = .ok (.iload_n 2, 1) := by decide +kernel
theorem dX1_spreadOnce_32 : decode cX1_spreadOnce 32 = .ok (.iaload, 1) := by decide +kernel
theorem dX1_spreadOnce_33 : decode cX1_spreadOnce 33 = .ok (.iaload, 1) := by decide +kernel
theorem dX1_spreadOnce_34 : decode cX1_spreadOnce 34 = .ok (.istore_n 3, 1) := by decide +kernel
theorem dX1_spreadOnce_35 : decode cX1_spreadOnce 35 = .ok (.aload_n 0, 1) := by decide +kernel
theorem dX1_spreadOnce_36 : decode cX1_spreadOnce 36 = .ok (.iload_n 2, 1) := by decide +kernel
theorem dX1_spreadOnce_37 : decode cX1_spreadOnce 37 = .ok (.aload_n 0, 1) := by decide +kernel
theorem dX1_spreadOnce_38 : decode cX1_spreadOnce 38 = .ok (.getfield 15, 3) := by decide +kernel
theorem dX1_spreadOnce_41 : decode cX1_spreadOnce 41 = .ok (.iload_n 3, 1) := by decide +kernel
theorem dX1_spreadOnce_42 : decode cX1_spreadOnce 42 = .ok (.iaload, 1) := by decide +kernel
theorem dX1_spreadOnce_43 : decode cX1_spreadOnce 43 = .ok (.invokevirtual 79, 3) := by decide +kernel
theorem dX1_spreadOnce_46 : decode cX1_spreadOnce 46 = .ok (.istore 4, 2) := by decide +kernel
theorem dX1_spreadOnce_48 : decode cX1_spreadOnce 48 = .ok (.iload 4, 2) := by decide +kernel
theorem dX1_spreadOnce_50 : decode cX1_spreadOnce 50 = .ok (.iconst (-1), 1) := by decide +kernel
theorem dX1_spreadOnce_51 : decode cX1_spreadOnce 51 = .ok (.if_icmp .ne 25, 3) := by decide +kernel
theorem dX1_spreadOnce_54 : decode cX1_spreadOnce 54 = .ok (.aload_n 0, 1) := by decide +kernel
theorem dX1_spreadOnce_55 : decode cX1_spreadOnce 55 = .ok (.getfield 18, 3) := by decide +kernel
theorem dX1_spreadOnce_58 : decode cX1_spreadOnce 58 = .ok (.iload_n 2, 1) := by decide +kernel
theorem dX1_spreadOnce_59 : decode cX1_spreadOnce 59 = .ok (.aload_n 0, 1) := by decide +kernel
theorem dX1_spreadOnce_60 : decode cX1_spreadOnce 60 = .ok (.getfield 15, 3) := by decide +kernel
theorem dX1_spreadOnce_63 : decode cX1_spreadOnce 63 = .ok (.iload_n 3, 1) := by decide +kernel
theorem dX1_spreadOnce_64 : decode cX1_spreadOnce 64 = .ok (.iaload, 1) := by decide +kernel
theorem dX1_spreadOnce_65 : decode cX1_spreadOnce 65 = .ok (.iastore, 1) := by decide +kernel
theorem dX1_spreadOnce_66 : decode cX1_spreadOnce 66 = .ok (.aload_n 0, 1) := by decide +kernel
theorem dX1_spreadOnce_67 : decode cX1_spreadOnce 67 = .ok (.getfield 15, 3) := by decide +kernel
theorem dX1_spreadOnce_70 : decode cX1_spreadOnce 70 = .ok (.iload_n 3, 1) := by decide +kernel
theorem dX1_spreadOnce_71 : decode cX1_spreadOnce 71 = .ok (.iload_n 2, 1) := by decide +kernel
theorem dX1_spreadOnce_72 : decode cX1_spreadOnce 72 = .ok (.iastore, 1) := by decide +kernel
theorem dX1_spreadOnce_73 : decode cX1_spreadOnce 73 = .ok (.goto 28, 3) := by decide +kernel
theorem dX1_spreadOnce_76 : decode cX1_spreadOnce 76 = .ok (.aload_n 0, 1) := by decide +kernel
theorem dX1_spreadOnce_77 : decode cX1_spreadOnce 77 = .ok (.getfield 9, 3) := by decide +kernel
theorem dX1_spreadOnce_80 : decode cX1_spreadOnce 80 = .ok (.iload 4, 2) := by decide +kernel
theorem dX1_spreadOnce_82 : decode cX1_spreadOnce 82 = .ok (.iaload, 1) := by decide +kernel
theorem dX1_spreadOnce_83 : decode cX1_spreadOnce 83 = .ok (.aload_n 0, 1) := by decide +kernel
theorem dX1_spreadOnce_84 : decode cX1_spreadOnce 84 = .ok (.getfield 9, 3) := by decide +kernel
theorem dX1_spreadOnce_87 : decode cX1_spreadOnce 87 = .ok (.iload_n 2, 1) := by decide +kernel
theorem dX1_spreadOnce_88 : decode cX1_spreadOnce 88 = .ok (.iaload, 1) := by decide +kernel
theorem dX1_spreadOnce_89 : decode cX1_spreadOnce 89 = .ok (.if_icmp .eq 12, 3) := by decide +kernel
theorem dX1_spreadOnce_92 : decode cX1_spreadOnce 92 = .ok (.aload_n 0, 1) := by decide +kernel
theorem dX1_spreadOnce_93 : decode cX1_spreadOnce 93 = .ok (.iload 4, 2) := by decide +kernel
theorem dX1_spreadOnce_95 : decode cX1_spreadOnce 95 = .ok (.iload_n 2, 1) := by decide +kernel
theorem dX1_spreadOnce_96 : decode cX1_spreadOnce 96 = .ok (.invokevirtual 55, 3) := by decide +kernel
theorem dX1_spreadOnce_99 : decode cX1_spreadOnce 99 = .ok (.iconst 1, 1) := by decide +kernel
theorem dX1_spreadOnce_100 : decode cX1_spreadOnce 100 = .ok (.istore_n 1, 1) := by decide +kernel
theorem dX1_spreadOnce_101 : decode cX1_spreadOnce 101 = .ok (.iinc 2 1, 3) := by decide +kernel
theorem dX1_spreadOnce_104 : decode cX1_spreadOnce 104 = .ok (.goto (-92), 3) := by decide +kernel
theorem dX1_spreadOnce_107 : decode cX1_spreadOnce 107 = .ok (.iload_n 1, 1) := by decide +kernel
theorem dX1_spreadOnce_108 : decode cX1_spreadOnce 108 = .ok (.ireturn, 1) := by decide +kernel
theorem dX1_findMatch_0 : decode cX1_findMatch 0 = .ok (.iload_n 2, 1) := by decide +kernel
theorem dX1_findMatch_1 : decode cX1_findMatch 1 = .ok (.istore_n 3, 1) := by decide +kernel
theorem dX1_findMatch_2 : decode cX1_findMatch 2 = .ok (.iconst 0, 1) := by decide +kernel
theorem dX1_findMatch_3 : decode cX1_findMatch 3 = .ok (.istore 4, 2) := by decide +kernel
theorem dX1_findMatch_5 : decode cX1_findMatch 5 = .ok (.iload 4, 2) := by decide +kernel
theorem dX1_findMatch_7 : decode cX1_findMatch 7 = .ok (.aload_n 0, 1) := by decide +kernel
theorem dX1_findMatch_8 : decode cX1_findMatch 8 = .ok (.getfield 40, 3) := by decide +kernel
theorem dX1_findMatch_11 : decode cX1_findMatch 11 = .ok (.if_icmp .ge 82, 3) := by decide +kernel
theorem dX1_findMatch_14 : decode cX1_findMatch 14 = .ok (.iload_n 3, 1) := by decide +kernel
theorem dX1_findMatch_15 : decode cX1_findMatch 15 = .ok (.ifCond .lt 78, 3) := by decide +kernel
theorem dX1_findMatch_18 : decode cX1_findMatch 18 = .ok (.iload_n 3, 1) := by decide +kernel
theorem dX1_findMatch_19 : decode cX1_findMatch 19 = .ok (.aload_n 0, 1) := by decide +kernel
theorem dX1_findMatch_20 : decode cX1_findMatch 20 = .ok (.getfield 40, 3) := by decide +kernel
theorem dX1_findMatch_23 : decode cX1_findMatch 23 = .ok (.if_icmp .ge 70, 3) := by decide +kernel
theorem dX1_findMatch_26 : decode cX1_findMatch 26 = .ok (.aload_n 0, 1) := by decide +kernel
theorem dX1_findMatch_27 : decode cX1_findMatch 27 = .ok (.getfield 27, 3) := by decide +kernel
theorem dX1_findMatch_30 : decode cX1_findMatch 30 = .ok (.getfield 82, 3) := by decide +kernel
theorem dX1_findMatch_33 : decode cX1_findMatch 33 = .ok (.iload_n 3, 1) := by decide +kernel
theorem dX1_findMatch_34 : decode cX1_findMatch 34 = .ok (.iaload, 1) := by decide +kernel
theorem dX1_findMatch_35 : decode cX1_findMatch 35 = .ok (.aload_n 0, 1) := by decide +kernel
theorem dX1_findMatch_36 : decode cX1_findMatch 36 = .ok (.getfield 27, 3) := by decide +kernel
theorem dX1_findMatch_39 : decode cX1_findMatch 39 = .ok (.getfield 82, 3) := by decide +kernel
theorem dX1_findMatch_42 : decode cX1_findMatch 42 = .ok (.iload_n 1, 1) := by decide +kernel
theorem dX1_findMatch_43 : decode cX1_findMatch 43 = .ok (.iaload, 1) := by decide +kernel
theorem dX1_findMatch_44 : decode cX1_findMatch 44 = .ok (.if_icmp .ne 36, 3) := by decide +kernel
theorem dX1_findMatch_47 : decode cX1_findMatch 47 = .ok (.aload_n 0, 1) := by decide +kernel
theorem dX1_findMatch_48 : decode cX1_findMatch 48 = .ok (.getfield 9, 3) := by decide +kernel
theorem dX1_findMatch_51 : decode cX1_findMatch 51 = .ok (.aload_n 0, 1) := by decide +kernel
theorem dX1_findMatch_52 : decode cX1_findMatch 52 = .ok (.getfield 27, 3) := by decide +kernel
theorem dX1_findMatch_55 : decode cX1_findMatch 55 = .ok (.getfield 85, 3) := by decide +kernel
theorem dX1_findMatch_58 : decode cX1_findMatch 58 = .ok (.iload_n 3, 1) := by decide +kernel
theorem dX1_findMatch_59 : decode cX1_findMatch 59 = .ok (.iaload, 1) := by decide +kernel
theorem dX1_findMatch_60 : decode cX1_findMatch 60 = .ok (.iaload, 1) := by decide +kernel
theorem dX1_findMatch_61 : decode cX1_findMatch 61 = .ok (.aload_n 0, 1) := by decide +kernel
theorem dX1_findMatch_62 : decode cX1_findMatch 62 = .ok (.getfield 9, 3) := by decide +kernel
theorem dX1_findMatch_65 : decode cX1_findMatch 65 = .ok (.aload_n 0, 1) := by decide +kernel
theorem dX1_findMatch_66 : decode cX1_findMatch 66 = .ok (.getfield 27, 3) := by decide +kernel
theorem dX1_findMatch_69 : decode cX1_findMatch 69 = .ok (.getfield 85, 3) := by decide +kernel
theorem dX1_findMatch_72 : decode cX1_findMatch 72 = .ok (.iload_n 1, 1) := by decide +kernel
theorem dX1_findMatch_73 : decode cX1_findMatch 73 = .ok (.iaload, 1) := by decide +kernel
theorem dX1_findMatch_74 : decode cX1_findMatch 74 = .ok (.iaload, 1) := by decide +kernel
theorem dX1_findMatch_75 : decode cX1_findMatch 75 = .ok (.if_icmp .ne 5, 3) := by decide +kernel
theorem dX1_findMatch_78 : decode cX1_findMatch 78 = .ok (.iload_n 3, 1) := by decide +kernel
theorem dX1_findMatch_79 : decode cX1_findMatch 79 = .ok (.ireturn, 1) := by decide +kernel
theorem dX1_findMatch_80 : decode cX1_findMatch 80 = .ok (.aload_n 0, 1) := by decide +kernel
theorem dX1_findMatch_81 : decode cX1_findMatch 81 = .ok (.getfield 18, 3) := by decide +kernel
theorem dX1_findMatch_84 : decode cX1_findMatch 84 = .ok (.iload_n 3, 1) := by decide +kernel
theorem dX1_findMatch_85 : decode cX1_findMatch 85 = .ok (.iaload, 1) := by decide +kernel
theorem dX1_findMatch_86 : decode cX1_findMatch 86 = .ok (.istore_n 3, 1) := by decide +kernel
theorem dX1_findMatch_87 : decode cX1_findMatch 87 = .ok (.iinc 4 1, 3) := by decide +kernel
theorem dX1_findMatch_90 : decode cX1_findMatch 90 = .ok (.goto (-85), 3) := by decide +kernel
theorem dX1_findMatch_93 : decode cX1_findMatch 93 = .ok (.iconst (-1), 1) := by decide +kernel
theorem dX1_findMatch_94 : decode cX1_findMatch 94 = .ok (.ireturn, 1) := by decide +kernel
theorem dX2_init_0 : decode cX2_init 0 = .ok (.aload_n 0, 1) := by decide +kernel
theorem dX2_init_1 : decode cX2_init 1 = .ok (.invokespecial 3, 3) := by decide +kernel
theorem dX2_init_4 : decode cX2_init 4 = .ok (.aload_n 0, 1) := by decide +kernel
theorem dX2_init_5 : decode cX2_init 5 = .ok (.iconst 4, 1) := by decide +kernel
theorem dX2_init_6 : decode cX2_init 6 = .ok (.newarray .int, 2) := by decide +kernel
theorem dX2_init_8 : decode cX2_init 8 = .ok (.putfield 9, 3) := by decide +kernel
theorem dX2_init_11 : decode cX2_init 11 = .ok (.aload_n 0, 1) := by decide +kernel
theorem dX2_init_12 : decode cX2_init 12 = .ok (.iconst 4, 1) := by decide +kernel
theorem dX2_init_13 : decode cX2_init 13 = .ok (.newarray .int, 2) := by decide +kernel
theorem dX2_init_15 : decode cX2_init 15 = .ok (.putfield 15, 3) := by decide +kernel
theorem dX2_init_18 : decode cX2_init 18 = .ok (.aload_n 0, 1) := by decide +kernel
theorem dX2_init_19 : decode cX2_init 19 = .ok (.iconst 4, 1) := by decide +kernel
theorem dX2_init_20 : decode cX2_init 20 = .ok (.newarray .int, 2) := by decide +kernel
theorem dX2_init_22 : decode cX2_init 22 = .ok (.putfield 18, 3) := by decide +kernel
theorem dX2_init_25 : decode cX2_init 25 = .ok (.aload_n 0, 1) := by decide +kernel
theorem dX2_init_26 : decode cX2_init 26 = .ok (.bipush 6, 2) := by decide +kernel
theorem dX2_init_28 : decode cX2_init 28 = .ok (.newarray .int, 2) := by decide +kernel
theorem dX2_init_30 : decode cX2_init 30 = .ok (.putfield 21, 3) := by decide +kernel
theorem dX2_init_33 : decode cX2_init 33 = .ok (.aload_n 0, 1) := by decide +kernel
theorem dX2_init_34 : decode cX2_init 34 = .ok (.bipush 6, 2) := by decide +kernel
theorem dX2_init_36 : decode cX2_init 36 = .ok (.newarray .int, 2) := by decide +kernel
theorem dX2_init_38 : decode cX2_init 38 = .ok (.putfield 24, 3) := by decide +kernel
theorem dX2_init_41 : decode cX2_init 41 = .ok (.aload_n 0, 1) := by decide +kernel
theorem dX2_init_42 : decode cX2_init 42 = .ok (.bipush 6, 2) := by decide +kernel
theorem dX2_init_44 : decode cX2_init 44 = .ok (.newarray .int, 2) := by decide +kernel
theorem dX2_init_46 : decode cX2_init 46 = .ok (.putfield 27, 3) := by decide +kernel
theorem dX2_init_49 : decode cX2_init 49 = .ok (.return_, 1) := by decide +kernel
theorem dX2_goPlain_0 : decode cX2_goPlain 0 = .ok (.iconst 0, 1) := by decide +kernel
theorem dX2_goPlain_1 : decode cX2_goPlain 1 = .ok (.istore_n 3, 1) := by decide +kernel
theorem dX2_goPlain_2 : decode cX2_goPlain 2 = .ok (.iload_n 3, 1) := by decide +kernel
theorem dX2_goPlain_3 : decode cX2_goPlain 3 = .ok (.iconst 4, 1) := by decide +kernel
theorem dX2_goPlain_4 : decode cX2_goPlain 4 = .ok (.if_icmp .ge 16, 3) := by decide +kernel
theorem dX2_goPlain_7 : decode cX2_goPlain 7 = .ok (.aload_n 0, 1) := by decide +kernel
theorem dX2_goPlain_8 : decode cX2_goPlain 8 = .ok (.getfield 9, 3) := by decide +kernel
theorem dX2_goPlain_11 : decode cX2_goPlain 11 = .ok (.iload_n 3, 1) := by decide +kernel
theorem dX2_goPlain_12 : decode cX2_goPlain 12 = .ok (.iload_n 3, 1) := by decide +kernel
theorem dX2_goPlain_13 : decode cX2_goPlain 13 = .ok (.iastore, 1) := by decide +kernel
theorem dX2_goPlain_14 : decode cX2_goPlain 14 = .ok (.iinc 3 1, 3) := by decide +kernel
theorem dX2_goPlain_17 : decode cX2_goPlain 17 = .ok (.goto (-15), 3) := by decide +kernel
theorem dX2_goPlain_20 : decode cX2_goPlain 20 = .ok (.iconst 0, 1) := by decide +kernel
theorem dX2_goPlain_21 : decode cX2_goPlain 21 = .ok (.istore_n 3, 1) := by decide +kernel
theorem dX2_goPlain_22 : decode cX2_goPlain 22 = .ok (.iload_n 3, 1) := by decide +kernel
theorem dX2_goPlain_23 : decode cX2_goPlain 23 = .ok (.aload_n 1, 1) := by decide +kernel
theorem dX2_goPlain_24 : decode cX2_goPlain 24 = .ok (.getfield 30, 3) := by decide +kernel
theorem dX2_goPlain_27 : decode cX2_goPlain 27 = .ok (.if_icmp .ge 82, 3) := by decide +kernel
theorem dX2_goPlain_30 : decode cX2_goPlain 30 = .ok (.iload_n 3, 1) := by decide +kernel
theorem dX2_goPlain_31 : decode cX2_goPlain 31 = .ok (.bipush 6, 2) := by decide +kernel
theorem dX2_goPlain_33 : decode cX2_goPlain 33 = .ok (.if_icmp .ge 76, 3) := by decide +kernel
theorem dX2_goPlain_36 : decode cX2_goPlain 36 = .ok (.aload_n 1, 1) := by decide +kernel
theorem dX2_goPlain_37 : decode cX2_goPlain 37 = .ok (.getfield 36, 3) := by decide +kernel
theorem dX2_goPlain_40 : decode cX2_goPlain 40 = .ok (.iload_n 3, 1) := by decide +kernel
theorem dX2_goPlain_41 : decode cX2_goPlain 41 = .ok (.iaload, 1) := by decide +kernel
theorem dX2_goPlain_42 : decode cX2_goPlain 42 = .ok (.istore 4, 2) := by decide +kernel
theorem dX2_goPlain_44 : decode cX2_goPlain 44 = .ok (.iload 4, 2) := by decide +kernel
theorem dX2_goPlain_46 : decode cX2_goPlain 46 = .ok (.invokestatic 39, 3) := by decide +kernel
theorem dX2_goPlain_49 : decode cX2_goPlain 49 = .ok (.istore 5, 2) := by decide +kernel
theorem dX2_goPlain_51 : decode cX2_goPlain 51 = .ok (.iload 5, 2) := by decide +kernel
theorem dX2_goPlain_53 : decode cX2_goPlain 53 = .ok (.ifCond .eq 50, 3) := by decide +kernel
theorem dX2_goPlain_56 : decode cX2_goPlain 56 = .ok (.aload_n 0, 1) := by decide +kernel
theorem dX2_goPlain_57 : decode cX2_goPlain 57 = .ok (.getfield 9, 3) := by decide +kernel
theorem dX2_goPlain_60 : decode cX2_goPlain 60 = .ok (.iload 4, 2) := by decide +kernel
theorem dX2_goPlain_62 : decode cX2_goPlain 62 = .ok (.invokestatic 43, 3) := by decide +kernel
theorem dX2_goPlain_65 : decode cX2_goPlain 65 = .ok (.iaload, 1) := by decide +kernel
theorem dX2_goPlain_66 : decode cX2_goPlain 66 = .ok (.istore 6, 2) := by decide +kernel
theorem dX2_goPlain_68 : decode cX2_goPlain 68 = .ok (.aload_n 0, 1) := by decide +kernel
theorem dX2_goPlain_69 : decode cX2_goPlain 69 = .ok (.getfield 9, 3) := by decide +kernel
theorem dX2_goPlain_72 : decode cX2_goPlain 72 = .ok (.iload 4, 2) := by decide +kernel
theorem dX2_goPlain_74 : decode cX2_goPlain 74 = .ok (.invokestatic 46, 3) := by decide +kernel
theorem dX2_goPlain_77 : decode cX2_goPlain 77 = .ok (.iaload, 1) := by decide +kernel
theorem dX2_goPlain_78 : decode cX2_goPlain 78 = .ok (.istore 7, 2) := by decide +kernel
theorem dX2_goPlain_80 : decode cX2_goPlain 80 = .ok (.aload_n 0, 1) := by decide +kernel
theorem dX2_goPlain_81 : decode cX2_goPlain 81 = .ok (.getfield 9, 3) := by decide +kernel
theorem dX2_goPlain_84 : decode cX2_goPlain 84 = .ok (.iload 4, 2) := by decide +kernel
theorem dX2_goPlain_86 : decode cX2_goPlain 86 = .ok (.invokestatic 49, 3) := by decide +kernel
theorem dX2_goPlain_89 : decode cX2_goPlain 89 = .ok (.aload_n 2, 1) := by decide +kernel
theorem dX2_goPlain_90 : decode cX2_goPlain 90 = .ok (.iload 5, 2) := by decide +kernel
theorem dX2_goPlain_92 : decode cX2_goPlain 92 = .ok (.invokestatic 52, 3) := by decide +kernel
theorem dX2_goPlain_95 : decode cX2_goPlain 95 = .ok (.iload 6, 2) := by decide +kernel
theorem dX2_goPlain_97 : decode cX2_goPlain 97 = .ok (.iload 7, 2) := by decide +kernel
theorem dX2_goPlain_99 : decode cX2_goPlain 99 = .ok (.invokevirtual 55, 3) := by decide +kernel
theorem dX2_goPlain_102 : decode cX2_goPlain 102 = .ok (.iastore, 1) := by decide +kernel
theorem dX2_goPlain_103 : decode cX2_goPlain 103 = .ok (.iinc 3 1, 3) := by decide +kernel
theorem dX2_goPlain_106 : decode cX2_goPlain 106 = .ok (.goto (-84), 3) := by decide +kernel
theorem dX2_goPlain_109 : decode cX2_goPlain 109 = .ok (.return_, 1) := by decide +kernel
theorem dX2_goPiped_0 : decode cX2_goPiped 0 = .ok (.iconst 0, 1) := by decide +kernel
theorem dX2_goPiped_1 : decode cX2_goPiped 1 = .ok (.istore 4, 2) := by decide +kernel
theorem dX2_goPiped_3 : decode cX2_goPiped 3 = .ok (.iload 4, 2) := by decide +kernel
theorem dX2_goPiped_5 : decode cX2_goPiped 5 = .ok (.iconst 4, 1) := by decide +kernel
theorem dX2_goPiped_6 : decode cX2_goPiped 6 = .ok (.if_icmp .ge 26, 3) := by decide +kernel
theorem dX2_goPiped_9 : decode cX2_goPiped 9 = .ok (.aload_n 0, 1) := by decide +kernel
theorem dX2_goPiped_10 : decode cX2_goPiped 10 = .ok (.getfield 15, 3) := by decide +kernel
theorem dX2_goPiped_13 : decode cX2_goPiped 13 = .ok (.iload 4, 2) := by decide +kernel
theorem dX2_goPiped_15 : decode cX2_goPiped 15 = .ok (.iload 4, 2) := by decide +kernel
theorem dX2_goPiped_17 : decode cX2_goPiped 17 = .ok (.iastore, 1) := by decide +kernel
theorem dX2_goPiped_18 : decode cX2_goPiped 18 = .ok (.aload_n 0, 1) := by decide +kernel
theorem dX2_goPiped_19 : decode cX2_goPiped 19 = .ok (.getfield 18, 3) := by decide +kernel
theorem dX2_goPiped_22 : decode cX2_goPiped 22 = .ok (.iload 4, 2) := by decide +kernel
theorem dX2_goPiped_24 : decode cX2_goPiped 24 = .ok (.iconst (-1), 1) := by decide +kernel
theorem dX2_goPiped_25 : decode cX2_goPiped 25 = .ok (.iastore, 1) := by decide +kernel
theorem dX2_goPiped_26 : decode cX2_goPiped 26 = .ok (.iinc 4 1, 3) := by decide +kernel
theorem dX2_goPiped_29 : decode cX2_goPiped 29 = .ok (.goto (-26), 3) := by decide +kernel
theorem dX2_goPiped_32 : decode cX2_goPiped 32 = .ok (.iconst 0, 1) := by decide +kernel
theorem dX2_goPiped_33 : decode cX2_goPiped 33 = .ok (.istore 4, 2) := by decide +kernel
theorem dX2_goPiped_35 : decode cX2_goPiped 35 = .ok (.iconst 0, 1) := by decide +kernel
theorem dX2_goPiped_36 : decode cX2_goPiped 36 = .ok (.istore 5, 2) := by decide +kernel
theorem dX2_goPiped_38 : decode cX2_goPiped 38 = .ok (.iload 5, 2) := by decide +kernel
theorem dX2_goPiped_40 : decode cX2_goPiped 40 = .ok (.aload_n 1, 1) := by decide +kernel
theorem dX2_goPiped_41 : decode cX2_goPiped 41 = .ok (.getfield 30, 3) := by decide +kernel
theorem dX2_goPiped_44 : decode cX2_goPiped 44 = .ok (.if_icmp .ge 178, 3) := by decide +kernel
theorem dX2_goPiped_47 : decode cX2_goPiped 47 = .ok (.iload 5, 2) := by decide +kernel
theorem dX2_goPiped_49 : decode cX2_goPiped 49 = .ok (.bipush 6, 2) := by decide +kernel
theorem dX2_goPiped_51 : decode cX2_goPiped 51 = .ok (.if_icmp .ge 171, 3) := by decide +kernel
theorem dX2_goPiped_54 : decode cX2_goPiped 54 = .ok (.aload_n 1, 1) := by decide +kernel
theorem dX2_goPiped_55 : decode cX2_goPiped 55 = .ok (.getfield 36, 3) := by decide +kernel
theorem dX2_goPiped_58 : decode cX2_goPiped 58 = .ok (.iload 5, 2) := by decide +kernel
theorem dX2_goPiped_60 : decode cX2_goPiped 60 = .ok (.iaload, 1) := by decide +kernel
theorem dX2_goPiped_61 : decode cX2_goPiped 61 = .ok (.istore 6, 2) := by decide +kernel
theorem dX2_goPiped_63 : decode cX2_goPiped 63 = .ok (.iload 6, 2) := by decide +kernel
theorem dX2_goPiped_65 : decode cX2_goPiped 65 = .ok (.invokestatic 39, 3) := by decide +kernel
theorem dX2_goPiped_68 : decode cX2_goPiped 68 = .ok (.istore 7, 2) := by decide +kernel
theorem dX2_goPiped_70 : decode cX2_goPiped 70 = .ok (.aload_n 0, 1) := by decide +kernel
theorem dX2_goPiped_71 : decode cX2_goPiped 71 = .ok (.getfield 21, 3) := by decide +kernel
theorem dX2_goPiped_74 : decode cX2_goPiped 74 = .ok (.iload 5, 2) := by decide +kernel
theorem dX2_goPiped_76 : decode cX2_goPiped 76 = .ok (.aload_n 2, 1) := by decide +kernel
theorem dX2_goPiped_77 : decode cX2_goPiped 77 = .ok (.getfield 61, 3) := by decide +kernel
theorem dX2_goPiped_80 : decode cX2_goPiped 80 = .ok (.iconst 1, 1) := by decide +kernel
theorem dX2_goPiped_81 : decode cX2_goPiped 81 = .ok (.if_icmp .ne 15, 3) := by decide +kernel
theorem dX2_goPiped_84 : decode cX2_goPiped 84 = .ok (.aload_n 0, 1) := by decide +kernel
theorem dX2_goPiped_85 : decode cX2_goPiped 85 = .ok (.iload 4, 2) := by decide +kernel
theorem dX2_goPiped_87 : decode cX2_goPiped 87 = .ok (.iload 6, 2) := by decide +kernel
theorem dX2_goPiped_89 : decode cX2_goPiped 89 = .ok (.aload_n 2, 1) := by decide +kernel
theorem dX2_goPiped_90 : decode cX2_goPiped 90 = .ok (.invokevirtual 66, 3) := by decide +kernel
theorem dX2_goPiped_93 : decode cX2_goPiped 93 = .ok (.goto 5, 3) := by decide +kernel
theorem dX2_goPiped_96 : decode cX2_goPiped 96 = .ok (.iload 4, 2) := by decide +kernel
theorem dX2_goPiped_98 : decode cX2_goPiped 98 = .ok (.iastore, 1) := by decide +kernel
theorem dX2_goPiped_99 : decode cX2_goPiped 99 = .ok (.aload_n 0, 1) := by decide +kernel
theorem dX2_goPiped_100 : decode cX2_goPiped 100 = .ok (.getfield 21, 3) := by decide +kernel
theorem dX2_goPiped_103 : decode cX2_goPiped 103 = .ok (.iload 5, 2) := by decide +kernel
theorem dX2_goPiped_105 : decode cX2_goPiped 105 = .ok (.iaload, 1) := by decide +kernel
theorem dX2_goPiped_106 : decode cX2_goPiped 106 = .ok (.iconst 1, 1) := by decide +kernel
theorem dX2_goPiped_107 : decode cX2_goPiped 107 = .ok (.iadd, 1) := by decide +kernel
theorem dX2_goPiped_108 : decode cX2_goPiped 108 = .ok (.istore 4, 2) := by decide +kernel
theorem dX2_goPiped_110 : decode cX2_goPiped 110 = .ok (.aload_n 0, 1) := by decide +kernel
theorem dX2_goPiped_111 : decode cX2_goPiped 111 = .ok (.getfield 24, 3) := by decide +kernel
theorem dX2_goPiped_114 : decode cX2_goPiped 114 = .ok (.iload 5, 2) := by decide +kernel
theorem dX2_goPiped_116 : decode cX2_goPiped 116 = .ok (.iconst (-1), 1) := by decide +kernel
theorem dX2_goPiped_117 : decode cX2_goPiped 117 = .ok (.iastore, 1) := by decide +kernel
theorem dX2_goPiped_118 : decode cX2_goPiped 118 = .ok (.iload 7, 2) := by decide +kernel
theorem dX2_goPiped_120 : decode cX2_goPiped 120 = .ok (.ifCond .eq 96, 3) := by decide +kernel
theorem dX2_goPiped_123 : decode cX2_goPiped 123 = .ok (.aload_n 0, 1) := by decide +kernel
theorem dX2_goPiped_124 : decode cX2_goPiped 124 = .ok (.iload 5, 2) := by decide +kernel
theorem dX2_goPiped_126 : decode cX2_goPiped 126 = .ok (.iload 6, 2) := by decide +kernel
theorem dX2_goPiped_128 : decode cX2_goPiped 128 = .ok (.invokestatic 43, 3) := by decide +kernel
theorem dX2_goPiped_131 : decode cX2_goPiped 131 = .ok (.aload_n 2, 1) := by decide +kernel
theorem dX2_goPiped_132 : decode cX2_goPiped 132 = .ok (.invokevirtual 70, 3) := by decide +kernel
theorem dX2_goPiped_135 : decode cX2_goPiped 135 = .ok (.istore 8, 2) := by decide +kernel
theorem dX2_goPiped_137 : decode cX2_goPiped 137 = .ok (.aload_n 0, 1) := by decide +kernel
theorem dX2_goPiped_138 : decode cX2_goPiped 138 = .ok (.iload 5, 2) := by decide +kernel
theorem dX2_goPiped_140 : decode cX2_goPiped 140 = .ok (.iload 6, 2) := by decide +kernel
theorem dX2_goPiped_142 : decode cX2_goPiped 142 = .ok (.invokestatic 46, 3) := by decide +kernel
theorem dX2_goPiped_145 : decode cX2_goPiped 145 = .ok (.aload_n 2, 1) := by decide +kernel
theorem dX2_goPiped_146 : decode cX2_goPiped 146 = .ok (.invokevirtual 70, 3) := by decide +kernel
theorem dX2_goPiped_149 : decode cX2_goPiped 149 = .ok (.istore 9, 2) := by decide +kernel
theorem dX2_goPiped_151 : decode cX2_goPiped 151 = .ok (.aload_n 0, 1) := by decide +kernel
theorem dX2_goPiped_152 : decode cX2_goPiped 152 = .ok (.getfield 27, 3) := by decide +kernel
theorem dX2_goPiped_155 : decode cX2_goPiped 155 = .ok (.iload 5, 2) := by decide +kernel
theorem dX2_goPiped_157 : decode cX2_goPiped 157 = .ok (.aload_n 3, 1) := by decide +kernel
theorem dX2_goPiped_158 : decode cX2_goPiped 158 = .ok (.iload 7, 2) := by decide +kernel
theorem dX2_goPiped_160 : decode cX2_goPiped 160 = .ok (.invokestatic 52, 3) := by decide +kernel
theorem dX2_goPiped_163 : decode cX2_goPiped 163 = .ok (.iload 8, 2) := by decide +kernel
theorem dX2_goPiped_165 : decode cX2_goPiped 165 = .ok (.iload 9, 2) := by decide +kernel
theorem dX2_goPiped_167 : decode cX2_goPiped 167 = .ok (.invokevirtual 55, 3) := by decide +kernel
theorem dX2_goPiped_170 : decode cX2_goPiped 170 = .ok (.iastore, 1) := by decide +kernel
theorem dX2_goPiped_171 : decode cX2_goPiped 171 = .ok (.aload_n 0, 1) := by decide +kernel
theorem dX2_goPiped_172 : decode cX2_goPiped 172 = .ok (.getfield 24, 3) := by decide +kernel
theorem dX2_goPiped_175 : decode cX2_goPiped 175 = .ok (.iload 5, 2) := by decide +kernel
theorem dX2_goPiped_177 : decode cX2_goPiped 177 = .ok (.iload 6, 2) := by decide +kernel
theorem dX2_goPiped_179 : decode cX2_goPiped 179 = .ok (.invokestatic 49, 3) := by decide +kernel
theorem dX2_goPiped_182 : decode cX2_goPiped 182 = .ok (.iastore, 1) := by decide +kernel
theorem dX2_goPiped_183 : decode cX2_goPiped 183 = .ok (.aload_n 0, 1) := by decide +kernel
theorem dX2_goPiped_184 : decode cX2_goPiped 184 = .ok (.getfield 18, 3) := by decide +kernel
theorem dX2_goPiped_187 : decode cX2_goPiped 187 = .ok (.aload_n 0, 1) := by decide +kernel
theorem dX2_goPiped_188 : decode cX2_goPiped 188 = .ok (.getfield 24, 3) := by decide +kernel
theorem dX2_goPiped_191 : decode cX2_goPiped 191 = .ok (.iload 5, 2) := by decide +kernel
theorem dX2_goPiped_193 : decode cX2_goPiped 193 = .ok (.iaload, 1) := by decide +kernel
theorem dX2_goPiped_194 : decode cX2_goPiped 194 = .ok (.iload 5, 2) := by decide +kernel
theorem dX2_goPiped_196 : decode cX2_goPiped 196 = .ok (.iastore, 1) := by decide +kernel
theorem dX2_goPiped_197 : decode cX2_goPiped 197 = .ok (.aload_n 0, 1) := by decide +kernel
theorem dX2_goPiped_198 : decode cX2_goPiped 198 = .ok (.getfield 15, 3) := by decide +kernel
theorem dX2_goPiped_201 : decode cX2_goPiped 201 = .ok (.aload_n 0, 1) := by decide +kernel
theorem dX2_goPiped_202 : decode cX2_goPiped 202 = .ok (.getfield 24, 3) := by decide +kernel
theorem dX2_goPiped_205 : decode cX2_goPiped 205 = .ok (.iload 5, 2) := by decide +kernel
theorem dX2_goPiped_207 : decode cX2_goPiped 207 = .ok (.iaload, 1) := by decide +kernel
theorem dX2_goPiped_208 : decode cX2_goPiped 208 = .ok (.aload_n 0, 1) := by decide +kernel
theorem dX2_goPiped_209 : decode cX2_goPiped 209 = .ok (.getfield 27, 3) := by decide +kernel
theorem dX2_goPiped_212 : decode cX2_goPiped 212 = .ok (.iload 5, 2) := by decide +kernel
theorem dX2_goPiped_214 : decode cX2_goPiped 214 = .ok (.iaload, 1) := by decide +kernel
theorem dX2_goPiped_215 : decode cX2_goPiped 215 = .ok (.iastore, 1) := by decide +kernel
theorem dX2_goPiped_216 : decode cX2_goPiped 216 = .ok (.iinc 5 1, 3) := by decide +kernel
theorem dX2_goPiped_219 : decode cX2_goPiped 219 = .ok (.goto (-181), 3) := by decide +kernel
theorem dX2_goPiped_222 : decode cX2_goPiped 222 = .ok (.return_, 1) := by decide +kernel
theorem dX2_headOf_0 : decode cX2_headOf 0 = .ok (.iload_n 0, 1) := by decide +kernel
theorem dX2_headOf_1 : decode cX2_headOf 1 = .ok (.iconst 1, 1) := by decide +kernel
theorem dX2_headOf_2 : decode cX2_headOf 2 = .ok (.if_icmp .ne 7, 3) := by decide +kernel
theorem dX2_headOf_5 : decode cX2_headOf 5 = .ok (.iconst 4, 1) := by decide +kernel
theorem dX2_headOf_6 : decode cX2_headOf 6 = .ok (.goto 4, 3) := by decide +kernel
theorem dX2_headOf_9 : decode cX2_headOf 9 = .ok (.iconst 5, 1) := by decide +kernel
theorem dX2_headOf_10 : decode cX2_headOf 10 = .ok (.ireturn, 1) := by decide +kernel
theorem dX2_waitFrom_0 : decode cX2_waitFrom 0 = .ok (.iload_n 1, 1) := by decide +kernel
theorem dX2_waitFrom_1 : decode cX2_waitFrom 1 = .ok (.istore 4, 2) := by decide +kernel
theorem dX2_waitFrom_3 : decode cX2_waitFrom 3 = .ok (.iload 4, 2) := by decide +kernel
theorem dX2_waitFrom_5 : decode cX2_waitFrom 5 = .ok (.iload_n 1, 1) := by decide +kernel
theorem dX2_waitFrom_6 : decode cX2_waitFrom 6 = .ok (.iconst 3, 1) := by decide +kernel
theorem dX2_waitFrom_7 : decode cX2_waitFrom 7 = .ok (.iadd, 1) := by decide +kernel
theorem dX2_waitFrom_8 : decode cX2_waitFrom 8 = .ok (.if_icmp .ge 20, 3) := by decide +kernel
theorem dX2_waitFrom_11 : decode cX2_waitFrom 11 = .ok (.aload_n 0, 1) := by decide +kernel
theorem dX2_waitFrom_12 : decode cX2_waitFrom 12 = .ok (.iload 4, 2) := by decide +kernel
theorem dX2_waitFrom_14 : decode cX2_waitFrom 14 = .ok (.iload_n 2, 1) := by decide +kernel
theorem dX2_waitFrom_15 : decode cX2_waitFrom 15 = .ok (.aload_n 3, 1) := by decide +kernel
theorem dX2_waitFrom_16 : decode cX2_waitFrom 16 = .ok (.invokevirtual 73, 3) := by decide +kernel
theorem dX2_waitFrom_19 : decode cX2_waitFrom 19 = .ok (.ifCond .ne 9, 3) := by decide +kernel
theorem dX2_waitFrom_22 : decode cX2_waitFrom 22 = .ok (.iinc 4 1, 3) := by decide +kernel
theorem dX2_waitFrom_25 : decode cX2_waitFrom 25 = .ok (.goto (-22), 3) := by decide +kernel
theorem dX2_waitFrom_28 : decode cX2_waitFrom 28 = .ok (.iload 4, 2) := by decide +kernel
theorem dX2_waitFrom_30 : decode cX2_waitFrom 30 = .ok (.ireturn, 1) := by decide +kernel
theorem dX2_isReady_0 : decode cX2_isReady 0 = .ok (.iload_n 2, 1) := by decide +kernel
theorem dX2_isReady_1 : decode cX2_isReady 1 = .ok (.invokestatic 39, 3) := by decide +kernel
theorem dX2_isReady_4 : decode cX2_isReady 4 = .ok (.istore 4, 2) := by decide +kernel
theorem dX2_isReady_6 : decode cX2_isReady 6 = .ok (.iload 4, 2) := by decide +kernel
theorem dX2_isReady_8 : decode cX2_isReady 8 = .ok (.iconst 1, 1) := by decide +kernel
theorem dX2_isReady_9 : decode cX2_isReady 9 = .ok (.if_icmp .lt 16, 3) := by decide +kernel
theorem dX2_isReady_12 : decode cX2_isReady 12 = .ok (.aload_n 0, 1) := by decide +kernel
theorem dX2_isReady_13 : decode cX2_isReady 13 = .ok (.iload_n 1, 1) := by decide +kernel
theorem dX2_isReady_14 : decode cX2_isReady 14 = .ok (.iload_n 2, 1) := by decide +kernel
theorem dX2_isReady_15 : decode cX2_isReady 15 = .ok (.invokestatic 43, 3) := by decide +kernel
theorem dX2_isReady_18 : decode cX2_isReady 18 = .ok (.aload_n 3, 1) := by decide +kernel
theorem dX2_isReady_19 : decode cX2_isReady 19 = .ok (.invokevirtual 77, 3) := by decide +kernel
theorem dX2_isReady_22 : decode cX2_isReady 22 = .ok (.ifCond .eq 26, 3) := by decide +kernel
theorem dX2_isReady_25 : decode cX2_isReady 25 = .ok (.iload 4, 2) := by decide +kernel
theorem dX2_isReady_27 : decode cX2_isReady 27 = .ok (.iconst 2, 1) := by decide +kernel
theorem dX2_isReady_28 : decode cX2_isReady 28 = .ok (.if_icmp .lt 16, 3) := by decide +kernel
theorem dX2_isReady_31 : decode cX2_isReady 31 = .ok (.aload_n 0, 1) := by decide +kernel
theorem dX2_isReady_32 : decode cX2_isReady 32 = .ok (.iload_n 1, 1) := by decide +kernel
theorem dX2_isReady_33 : decode cX2_isReady 33 = .ok (.iload_n 2, 1) := by decide +kernel
theorem dX2_isReady_34 : decode cX2_isReady 34 = .ok (.invokestatic 46, 3) := by decide +kernel
theorem dX2_isReady_37 : decode cX2_isReady 37 = .ok (.aload_n 3, 1) := by decide +kernel
theorem dX2_isReady_38 : decode cX2_isReady 38 = .ok (.invokevirtual 77, 3) := by decide +kernel
theorem dX2_isReady_41 : decode cX2_isReady 41 = .ok (.ifCond .eq 7, 3) := by decide +kernel
theorem dX2_isReady_44 : decode cX2_isReady 44 = .ok (.iconst 1, 1) := by decide +kernel
theorem dX2_isReady_45 : decode cX2_isReady 45 = .ok (.goto 4, 3) := by decide +kernel
theorem dX2_isReady_48 : decode cX2_isReady 48 = .ok (.iconst 0, 1) := by decide +kernel
theorem dX2_isReady_49 : decode cX2_isReady 49 = .ok (.ireturn, 1) := by decide +kernel
theorem dX2_showsMaker_0 : decode cX2_showsMaker 0 = .ok (.aload_n 0, 1) := by decide +kernel
theorem dX2_showsMaker_1 : decode cX2_showsMaker 1 = .ok (.getfield 18, 3) := by decide +kernel
theorem dX2_showsMaker_4 : decode cX2_showsMaker 4 = .ok (.iload_n 2, 1) := by decide +kernel
theorem dX2_showsMaker_5 : decode cX2_showsMaker 5 = .ok (.iaload, 1) := by decide +kernel
theorem dX2_showsMaker_6 : decode cX2_showsMaker 6 = .ok (.istore 4, 2) := by decide +kernel
theorem dX2_showsMaker_8 : decode cX2_showsMaker 8 = .ok (.iload 4, 2) := by decide +kernel
theorem dX2_showsMaker_10 : decode cX2_showsMaker 10 = .ok (.ifCond .lt 26, 3) := by decide +kernel
theorem dX2_showsMaker_13 : decode cX2_showsMaker 13 = .ok (.iload 4, 2) := by decide +kernel
theorem dX2_showsMaker_15 : decode cX2_showsMaker 15 = .ok (.bipush 6, 2) := by decide +kernel
theorem dX2_showsMaker_17 : decode cX2_showsMaker 17 = .ok (.if_icmp .ge 19, 3) := by decide +kernel
theorem dX2_showsMaker_20 : decode cX2_showsMaker 20 = .ok (.aload_n 3, 1) := by decide +kernel
theorem dX2_showsMaker_21 : decode cX2_showsMaker 21 = .ok (.iload_n 1, 1) := by decide +kernel
theorem dX2_showsMaker_22 : decode cX2_showsMaker 22 = .ok (.aload_n 0, 1) := by decide +kernel
theorem dX2_showsMaker_23 : decode cX2_showsMaker 23 = .ok (.getfield 21, 3) := by decide +kernel
theorem dX2_showsMaker_26 : decode cX2_showsMaker 26 = .ok (.iload 4, 2) := by decide +kernel
theorem dX2_showsMaker_28 : decode cX2_showsMaker 28 = .ok (.iaload, 1) := by decide +kernel
theorem dX2_showsMaker_29 : decode cX2_showsMaker 29 = .ok (.isub, 1) := by decide +kernel
theorem dX2_showsMaker_30 : decode cX2_showsMaker 30 = .ok (.invokevirtual 80, 3) := by decide +kernel
theorem dX2_showsMaker_33 : decode cX2_showsMaker 33 = .ok (.ifCond .eq 7, 3) := by decide +kernel
theorem dX2_showsMaker_36 : decode cX2_showsMaker 36 = .ok (.iconst 1, 1) := by decide +kernel
theorem dX2_showsMaker_37 : decode cX2_showsMaker 37 = .ok (.goto 4, 3) := by decide +kernel
theorem dX2_showsMaker_40 : decode cX2_showsMaker 40 = .ok (.iconst 0, 1) := by decide +kernel
theorem dX2_showsMaker_41 : decode cX2_showsMaker 41 = .ok (.ireturn, 1) := by decide +kernel
theorem dX2_readBy_0 : decode cX2_readBy 0 = .ok (.iload_n 1, 1) := by decide +kernel
theorem dX2_readBy_1 : decode cX2_readBy 1 = .ok (.iconst 1, 1) := by decide +kernel
theorem dX2_readBy_2 : decode cX2_readBy 2 = .ok (.isub, 1) := by decide +kernel
theorem dX2_readBy_3 : decode cX2_readBy 3 = .ok (.istore 4, 2) := by decide +kernel
theorem dX2_readBy_5 : decode cX2_readBy 5 = .ok (.iload 4, 2) := by decide +kernel
theorem dX2_readBy_7 : decode cX2_readBy 7 = .ok (.ifCond .lt 55, 3) := by decide +kernel
theorem dX2_readBy_10 : decode cX2_readBy 10 = .ok (.iload_n 1, 1) := by decide +kernel
theorem dX2_readBy_11 : decode cX2_readBy 11 = .ok (.bipush 6, 2) := by decide +kernel
theorem dX2_readBy_13 : decode cX2_readBy 13 = .ok (.if_icmp .ge 49, 3) := by decide +kernel
theorem dX2_readBy_16 : decode cX2_readBy 16 = .ok (.aload_n 0, 1) := by decide +kernel
theorem dX2_readBy_17 : decode cX2_readBy 17 = .ok (.getfield 24, 3) := by decide +kernel
theorem dX2_readBy_20 : decode cX2_readBy 20 = .ok (.iload 4, 2) := by decide +kernel
theorem dX2_readBy_22 : decode cX2_readBy 22 = .ok (.iaload, 1) := by decide +kernel
theorem dX2_readBy_23 : decode cX2_readBy 23 = .ok (.iload_n 2, 1) := by decide +kernel
theorem dX2_readBy_24 : decode cX2_readBy 24 = .ok (.if_icmp .ne 32, 3) := by decide +kernel
theorem dX2_readBy_27 : decode cX2_readBy 27 = .ok (.aload_n 3, 1) := by decide +kernel
theorem dX2_readBy_28 : decode cX2_readBy 28 = .ok (.aload_n 0, 1) := by decide +kernel
theorem dX2_readBy_29 : decode cX2_readBy 29 = .ok (.getfield 21, 3) := by decide +kernel
theorem dX2_readBy_32 : decode cX2_readBy 32 = .ok (.iload_n 1, 1) := by decide +kernel
theorem dX2_readBy_33 : decode cX2_readBy 33 = .ok (.iaload, 1) := by decide +kernel
theorem dX2_readBy_34 : decode cX2_readBy 34 = .ok (.aload_n 0, 1) := by decide +kernel
theorem dX2_readBy_35 : decode cX2_readBy 35 = .ok (.getfield 21, 3) := by decide +kernel
theorem dX2_readBy_38 : decode cX2_readBy 38 = .ok (.iload 4, 2) := by decide +kernel
theorem dX2_readBy_40 : decode cX2_readBy 40 = .ok (.iaload, 1) := by decide +kernel
theorem dX2_readBy_41 : decode cX2_readBy 41 = .ok (.isub, 1) := by decide +kernel
theorem dX2_readBy_42 : decode cX2_readBy 42 = .ok (.invokevirtual 80, 3) := by decide +kernel
end
section
theorem dX2_readBy_45 : decode cX2_readBy 45 = .ok (.ifCond .eq 11, 3) := by decide +kernel
theorem dX2_readBy_48 : decode cX2_readBy 48 = .ok (.aload_n 0, 1) := by decide +kernel
theorem dX2_readBy_49 : decode cX2_readBy 49 = .ok (.getfield 27, 3) := by decide +kernel
theorem dX2_readBy_52 : decode cX2_readBy 52 = .ok (.iload 4, 2) := by decide +kernel
theorem dX2_readBy_54 : decode cX2_readBy 54 = .ok (.iaload, 1) := by decide +kernel
theorem dX2_readBy_55 : decode cX2_readBy 55 = .ok (.ireturn, 1) := by decide +kernel
theorem dX2_readBy_56 : decode cX2_readBy 56 = .ok (.iinc 4 (-1), 3) := by decide +kernel
theorem dX2_readBy_59 : decode cX2_readBy 59 = .ok (.goto (-54), 3) := by decide +kernel
theorem dX2_readBy_62 : decode cX2_readBy 62 = .ok (.iload_n 2, 1) := by decide +kernel
theorem dX2_readBy_63 : decode cX2_readBy 63 = .ok (.ireturn, 1) := by decide +kernel
theorem dX2_stepAt_0 : decode cX2_stepAt 0 = .ok (.iload_n 1, 1) := by decide +kernel
theorem dX2_stepAt_1 : decode cX2_stepAt 1 = .ok (.ifCond .lt 18, 3) := by decide +kernel
theorem dX2_stepAt_4 : decode cX2_stepAt 4 = .ok (.iload_n 1, 1) := by decide +kernel
theorem dX2_stepAt_5 : decode cX2_stepAt 5 = .ok (.bipush 6, 2) := by decide +kernel
theorem dX2_stepAt_7 : decode cX2_stepAt 7 = .ok (.if_icmp .ge 12, 3) := by decide +kernel
theorem dX2_stepAt_10 : decode cX2_stepAt 10 = .ok (.aload_n 0, 1) := by decide +kernel
theorem dX2_stepAt_11 : decode cX2_stepAt 11 = .ok (.getfield 21, 3) := by decide +kernel
theorem dX2_stepAt_14 : decode cX2_stepAt 14 = .ok (.iload_n 1, 1) := by decide +kernel
theorem dX2_stepAt_15 : decode cX2_stepAt 15 = .ok (.iaload, 1) := by decide +kernel
theorem dX2_stepAt_16 : decode cX2_stepAt 16 = .ok (.goto 4, 3) := by decide +kernel
theorem dX2_stepAt_19 : decode cX2_stepAt 19 = .ok (.iconst 0, 1) := by decide +kernel
theorem dX2_stepAt_20 : decode cX2_stepAt 20 = .ok (.ireturn, 1) := by decide +kernel
theorem dX2_lastOf_0 : decode cX2_lastOf 0 = .ok (.iload_n 1, 1) := by decide +kernel
theorem dX2_lastOf_1 : decode cX2_lastOf 1 = .ok (.ifCond .lt 8, 3) := by decide +kernel
theorem dX2_lastOf_4 : decode cX2_lastOf 4 = .ok (.iload_n 1, 1) := by decide +kernel
theorem dX2_lastOf_5 : decode cX2_lastOf 5 = .ok (.iconst 4, 1) := by decide +kernel
theorem dX2_lastOf_6 : decode cX2_lastOf 6 = .ok (.if_icmp .lt 5, 3) := by decide +kernel
theorem dX2_lastOf_9 : decode cX2_lastOf 9 = .ok (.iconst 0, 1) := by decide +kernel
theorem dX2_lastOf_10 : decode cX2_lastOf 10 = .ok (.ireturn, 1) := by decide +kernel
theorem dX2_lastOf_11 : decode cX2_lastOf 11 = .ok (.iload_n 2, 1) := by decide +kernel
theorem dX2_lastOf_12 : decode cX2_lastOf 12 = .ok (.ifCond .eq 12, 3) := by decide +kernel
theorem dX2_lastOf_15 : decode cX2_lastOf 15 = .ok (.aload_n 0, 1) := by decide +kernel
theorem dX2_lastOf_16 : decode cX2_lastOf 16 = .ok (.getfield 15, 3) := by decide +kernel
theorem dX2_lastOf_19 : decode cX2_lastOf 19 = .ok (.iload_n 1, 1) := by decide +kernel
theorem dX2_lastOf_20 : decode cX2_lastOf 20 = .ok (.iaload, 1) := by decide +kernel
theorem dX2_lastOf_21 : decode cX2_lastOf 21 = .ok (.goto 9, 3) := by decide +kernel
theorem dX2_lastOf_24 : decode cX2_lastOf 24 = .ok (.aload_n 0, 1) := by decide +kernel
theorem dX2_lastOf_25 : decode cX2_lastOf 25 = .ok (.getfield 9, 3) := by decide +kernel
theorem dX2_lastOf_28 : decode cX2_lastOf 28 = .ok (.iload_n 1, 1) := by decide +kernel
theorem dX2_lastOf_29 : decode cX2_lastOf 29 = .ok (.iaload, 1) := by decide +kernel
theorem dX2_lastOf_30 : decode cX2_lastOf 30 = .ok (.ireturn, 1) := by decide +kernel
theorem dX2_differing_0 : decode cX2_differing 0 = .ok (.iconst 0, 1) := by decide +kernel
theorem dX2_differing_1 : decode cX2_differing 1 = .ok (.istore_n 1, 1) := by decide +kernel
theorem dX2_differing_2 : decode cX2_differing 2 = .ok (.iconst 0, 1) := by decide +kernel
theorem dX2_differing_3 : decode cX2_differing 3 = .ok (.istore_n 2, 1) := by decide +kernel
theorem dX2_differing_4 : decode cX2_differing 4 = .ok (.iload_n 2, 1) := by decide +kernel
theorem dX2_differing_5 : decode cX2_differing 5 = .ok (.iconst 4, 1) := by decide +kernel
theorem dX2_differing_6 : decode cX2_differing 6 = .ok (.if_icmp .ge 30, 3) := by decide +kernel
theorem dX2_differing_9 : decode cX2_differing 9 = .ok (.aload_n 0, 1) := by decide +kernel
theorem dX2_differing_10 : decode cX2_differing 10 = .ok (.getfield 9, 3) := by decide +kernel
theorem dX2_differing_13 : decode cX2_differing 13 = .ok (.iload_n 2, 1) := by decide +kernel
theorem dX2_differing_14 : decode cX2_differing 14 = .ok (.iaload, 1) := by decide +kernel
theorem dX2_differing_15 : decode cX2_differing 15 = .ok (.aload_n 0, 1) := by decide +kernel
theorem dX2_differing_16 : decode cX2_differing 16 = .ok (.getfield 15, 3) := by decide +kernel
theorem dX2_differing_19 : decode cX2_differing 19 = .ok (.iload_n 2, 1) := by decide +kernel
theorem dX2_differing_20 : decode cX2_differing 20 = .ok (.iaload, 1) := by decide +kernel
theorem dX2_differing_21 : decode cX2_differing 21 = .ok (.if_icmp .eq 9, 3) := by decide +kernel
theorem dX2_differing_24 : decode cX2_differing 24 = .ok (.iload_n 1, 1) := by decide +kernel
theorem dX2_differing_25 : decode cX2_differing 25 = .ok (.iconst 1, 1) := by decide +kernel
theorem dX2_differing_26 : decode cX2_differing 26 = .ok (.iload_n 2, 1) := by decide +kernel
theorem dX2_differing_27 : decode cX2_differing 27 = .ok (.ishl, 1) := by decide +kernel
theorem dX2_differing_28 : decode cX2_differing 28 = .ok (.ior, 1) := by decide +kernel
theorem dX2_differing_29 : decode cX2_differing 29 = .ok (.istore_n 1, 1) := by decide +kernel
theorem dX2_differing_30 : decode cX2_differing 30 = .ok (.iinc 2 1, 3) := by decide +kernel
theorem dX2_differing_33 : decode cX2_differing 33 = .ok (.goto (-29), 3) := by decide +kernel
theorem dX2_differing_36 : decode cX2_differing 36 = .ok (.iload_n 1, 1) := by decide +kernel
theorem dX2_differing_37 : decode cX2_differing 37 = .ok (.ireturn, 1) := by decide +kernel
theorem dX3_init_0 : decode cX3_init 0 = .ok (.aload_n 0, 1) := by decide +kernel
theorem dX3_init_1 : decode cX3_init 1 = .ok (.invokespecial 3, 3) := by decide +kernel
theorem dX3_init_4 : decode cX3_init 4 = .ok (.aload_n 0, 1) := by decide +kernel
theorem dX3_init_5 : decode cX3_init 5 = .ok (.bipush 10, 2) := by decide +kernel
theorem dX3_init_7 : decode cX3_init 7 = .ok (.anewarray 9, 3) := by decide +kernel
theorem dX3_init_10 : decode cX3_init 10 = .ok (.putfield 11, 3) := by decide +kernel
theorem dX3_init_13 : decode cX3_init 13 = .ok (.iconst 0, 1) := by decide +kernel
theorem dX3_init_14 : decode cX3_init 14 = .ok (.istore_n 1, 1) := by decide +kernel
theorem dX3_init_15 : decode cX3_init 15 = .ok (.iload_n 1, 1) := by decide +kernel
theorem dX3_init_16 : decode cX3_init 16 = .ok (.bipush 10, 2) := by decide +kernel
theorem dX3_init_18 : decode cX3_init 18 = .ok (.if_icmp .ge 22, 3) := by decide +kernel
theorem dX3_init_21 : decode cX3_init 21 = .ok (.aload_n 0, 1) := by decide +kernel
theorem dX3_init_22 : decode cX3_init 22 = .ok (.getfield 11, 3) := by decide +kernel
theorem dX3_init_25 : decode cX3_init 25 = .ok (.iload_n 1, 1) := by decide +kernel
theorem dX3_init_26 : decode cX3_init 26 = .ok (.new 9, 3) := by decide +kernel
theorem dX3_init_29 : decode cX3_init 29 = .ok (.dup, 1) := by decide +kernel
theorem dX3_init_30 : decode cX3_init 30 = .ok (.invokespecial 17, 3) := by decide +kernel
theorem dX3_init_33 : decode cX3_init 33 = .ok (.aastore, 1) := by decide +kernel
theorem dX3_init_34 : decode cX3_init 34 = .ok (.iinc 1 1, 3) := by decide +kernel
theorem dX3_init_37 : decode cX3_init 37 = .ok (.goto (-22), 3) := by decide +kernel
theorem dX3_init_40 : decode cX3_init 40 = .ok (.return_, 1) := by decide +kernel
theorem dX3_forgetAll_0 : decode cX3_forgetAll 0 = .ok (.aload_n 0, 1) := by decide +kernel
theorem dX3_forgetAll_1 : decode cX3_forgetAll 1 = .ok (.iconst 0, 1) := by decide +kernel
theorem dX3_forgetAll_2 : decode cX3_forgetAll 2 = .ok (.putfield 18, 3) := by decide +kernel
theorem dX3_forgetAll_5 : decode cX3_forgetAll 5 = .ok (.return_, 1) := by decide +kernel
theorem dX3_remember_0 : decode cX3_remember 0 = .ok (.aload_n 0, 1) := by decide +kernel
theorem dX3_remember_1 : decode cX3_remember 1 = .ok (.getfield 18, 3) := by decide +kernel
theorem dX3_remember_4 : decode cX3_remember 4 = .ok (.bipush 10, 2) := by decide +kernel
theorem dX3_remember_6 : decode cX3_remember 6 = .ok (.if_icmp .lt 7, 3) := by decide +kernel
theorem dX3_remember_9 : decode cX3_remember 9 = .ok (.aload_n 0, 1) := by decide +kernel
theorem dX3_remember_10 : decode cX3_remember 10 = .ok (.invokevirtual 22, 3) := by decide +kernel
theorem dX3_remember_13 : decode cX3_remember 13 = .ok (.aload_n 0, 1) := by decide +kernel
theorem dX3_remember_14 : decode cX3_remember 14 = .ok (.getfield 18, 3) := by decide +kernel
theorem dX3_remember_17 : decode cX3_remember 17 = .ok (.ifCond .lt 35, 3) := by decide +kernel
theorem dX3_remember_20 : decode cX3_remember 20 = .ok (.aload_n 0, 1) := by decide +kernel
theorem dX3_remember_21 : decode cX3_remember 21 = .ok (.getfield 18, 3) := by decide +kernel
theorem dX3_remember_24 : decode cX3_remember 24 = .ok (.bipush 10, 2) := by decide +kernel
theorem dX3_remember_26 : decode cX3_remember 26 = .ok (.if_icmp .ge 26, 3) := by decide +kernel
theorem dX3_remember_29 : decode cX3_remember 29 = .ok (.aload_n 0, 1) := by decide +kernel
theorem dX3_remember_30 : decode cX3_remember 30 = .ok (.getfield 11, 3) := by decide +kernel
theorem dX3_remember_33 : decode cX3_remember 33 = .ok (.aload_n 0, 1) := by decide +kernel
theorem dX3_remember_34 : decode cX3_remember 34 = .ok (.getfield 18, 3) := by decide +kernel
theorem dX3_remember_37 : decode cX3_remember 37 = .ok (.aaload, 1) := by decide +kernel
theorem dX3_remember_38 : decode cX3_remember 38 = .ok (.aload_n 1, 1) := by decide +kernel
theorem dX3_remember_39 : decode cX3_remember 39 = .ok (.invokevirtual 25, 3) := by decide +kernel
theorem dX3_remember_42 : decode cX3_remember 42 = .ok (.aload_n 0, 1) := by decide +kernel
theorem dX3_remember_43 : decode cX3_remember 43 = .ok (.dup, 1) := by decide +kernel
theorem dX3_remember_44 : decode cX3_remember 44 = .ok (.getfield 18, 3) := by decide +kernel
theorem dX3_remember_47 : decode cX3_remember 47 = .ok (.iconst 1, 1) := by decide +kernel
theorem dX3_remember_48 : decode cX3_remember 48 = .ok (.iadd, 1) := by decide +kernel
theorem dX3_remember_49 : decode cX3_remember 49 = .ok (.putfield 18, 3) := by decide +kernel
theorem dX3_remember_52 : decode cX3_remember 52 = .ok (.return_, 1) := by decide +kernel
theorem dX3_dropOldest_0 : decode cX3_dropOldest 0 = .ok (.aload_n 0, 1) := by decide +kernel
theorem dX3_dropOldest_1 : decode cX3_dropOldest 1 = .ok (.getfield 11, 3) := by decide +kernel
theorem dX3_dropOldest_4 : decode cX3_dropOldest 4 = .ok (.iconst 0, 1) := by decide +kernel
theorem dX3_dropOldest_5 : decode cX3_dropOldest 5 = .ok (.aaload, 1) := by decide +kernel
theorem dX3_dropOldest_6 : decode cX3_dropOldest 6 = .ok (.astore_n 1, 1) := by decide +kernel
theorem dX3_dropOldest_7 : decode cX3_dropOldest 7 = .ok (.iconst 1, 1) := by decide +kernel
theorem dX3_dropOldest_8 : decode cX3_dropOldest 8 = .ok (.istore_n 2, 1) := by decide +kernel
theorem dX3_dropOldest_9 : decode cX3_dropOldest 9 = .ok (.iload_n 2, 1) := by decide +kernel
theorem dX3_dropOldest_10 : decode cX3_dropOldest 10 = .ok (.bipush 10, 2) := by decide +kernel
theorem dX3_dropOldest_12 : decode cX3_dropOldest 12 = .ok (.if_icmp .ge 23, 3) := by decide +kernel
theorem dX3_dropOldest_15 : decode cX3_dropOldest 15 = .ok (.aload_n 0, 1) := by decide +kernel
theorem dX3_dropOldest_16 : decode cX3_dropOldest 16 = .ok (.getfield 11, 3) := by decide +kernel
theorem dX3_dropOldest_19 : decode cX3_dropOldest 19 = .ok (.iload_n 2, 1) := by decide +kernel
theorem dX3_dropOldest_20 : decode cX3_dropOldest 20 = .ok (.iconst 1, 1) := by decide +kernel
theorem dX3_dropOldest_21 : decode cX3_dropOldest 21 = .ok (.isub, 1) := by decide +kernel
theorem dX3_dropOldest_22 : decode cX3_dropOldest 22 = .ok (.aload_n 0, 1) := by decide +kernel
theorem dX3_dropOldest_23 : decode cX3_dropOldest 23 = .ok (.getfield 11, 3) := by decide +kernel
theorem dX3_dropOldest_26 : decode cX3_dropOldest 26 = .ok (.iload_n 2, 1) := by decide +kernel
theorem dX3_dropOldest_27 : decode cX3_dropOldest 27 = .ok (.aaload, 1) := by decide +kernel
theorem dX3_dropOldest_28 : decode cX3_dropOldest 28 = .ok (.aastore, 1) := by decide +kernel
theorem dX3_dropOldest_29 : decode cX3_dropOldest 29 = .ok (.iinc 2 1, 3) := by decide +kernel
theorem dX3_dropOldest_32 : decode cX3_dropOldest 32 = .ok (.goto (-23), 3) := by decide +kernel
theorem dX3_dropOldest_35 : decode cX3_dropOldest 35 = .ok (.aload_n 0, 1) := by decide +kernel
theorem dX3_dropOldest_36 : decode cX3_dropOldest 36 = .ok (.getfield 11, 3) := by decide +kernel
theorem dX3_dropOldest_39 : decode cX3_dropOldest 39 = .ok (.bipush 9, 2) := by decide +kernel
theorem dX3_dropOldest_41 : decode cX3_dropOldest 41 = .ok (.aload_n 1, 1) := by decide +kernel
theorem dX3_dropOldest_42 : decode cX3_dropOldest 42 = .ok (.aastore, 1) := by decide +kernel
theorem dX3_dropOldest_43 : decode cX3_dropOldest 43 = .ok (.aload_n 0, 1) := by decide +kernel
theorem dX3_dropOldest_44 : decode cX3_dropOldest 44 = .ok (.bipush 9, 2) := by decide +kernel
theorem dX3_dropOldest_46 : decode cX3_dropOldest 46 = .ok (.putfield 18, 3) := by decide +kernel
theorem dX3_dropOldest_49 : decode cX3_dropOldest 49 = .ok (.return_, 1) := by decide +kernel
theorem dX3_restoreLatest_0 : decode cX3_restoreLatest 0 = .ok (.aload_n 0, 1) := by decide +kernel
theorem dX3_restoreLatest_1 : decode cX3_restoreLatest 1 = .ok (.getfield 18, 3) := by decide +kernel
theorem dX3_restoreLatest_4 : decode cX3_restoreLatest 4 = .ok (.ifCond .le 35, 3) := by decide +kernel
theorem dX3_restoreLatest_7 : decode cX3_restoreLatest 7 = .ok (.aload_n 0, 1) := by decide +kernel
theorem dX3_restoreLatest_8 : decode cX3_restoreLatest 8 = .ok (.getfield 18, 3) := by decide +kernel
theorem dX3_restoreLatest_11 : decode cX3_restoreLatest 11 = .ok (.bipush 10, 2) := by decide +kernel
theorem dX3_restoreLatest_13 : decode cX3_restoreLatest 13 = .ok (.if_icmp .gt 26, 3) := by decide +kernel
theorem dX3_restoreLatest_16 : decode cX3_restoreLatest 16 = .ok (.aload_n 0, 1) := by decide +kernel
theorem dX3_restoreLatest_17 : decode cX3_restoreLatest 17 = .ok (.dup, 1) := by decide +kernel
theorem dX3_restoreLatest_18 : decode cX3_restoreLatest 18 = .ok (.getfield 18, 3) := by decide +kernel
theorem dX3_restoreLatest_21 : decode cX3_restoreLatest 21 = .ok (.iconst 1, 1) := by decide +kernel
theorem dX3_restoreLatest_22 : decode cX3_restoreLatest 22 = .ok (.isub, 1) := by decide +kernel
theorem dX3_restoreLatest_23 : decode cX3_restoreLatest 23 = .ok (.putfield 18, 3) := by decide +kernel
theorem dX3_restoreLatest_26 : decode cX3_restoreLatest 26 = .ok (.aload_n 1, 1) := by decide +kernel
theorem dX3_restoreLatest_27 : decode cX3_restoreLatest 27 = .ok (.aload_n 0, 1) := by decide +kernel
theorem dX3_restoreLatest_28 : decode cX3_restoreLatest 28 = .ok (.getfield 11, 3) := by decide +kernel
theorem dX3_restoreLatest_31 : decode cX3_restoreLatest 31 = .ok (.aload_n 0, 1) := by decide +kernel
theorem dX3_restoreLatest_32 : decode cX3_restoreLatest 32 = .ok (.getfield 18, 3) := by decide +kernel
theorem dX3_restoreLatest_35 : decode cX3_restoreLatest 35 = .ok (.aaload, 1) := by decide +kernel
theorem dX3_restoreLatest_36 : decode cX3_restoreLatest 36 = .ok (.invokevirtual 25, 3) := by decide +kernel
theorem dX3_restoreLatest_39 : decode cX3_restoreLatest 39 = .ok (.return_, 1) := by decide +kernel
theorem dX4_init_0 : decode cX4_init 0 = .ok (.aload_n 0, 1) := by decide +kernel
theorem dX4_init_1 : decode cX4_init 1 = .ok (.invokespecial 3, 3) := by decide +kernel
theorem dX4_init_4 : decode cX4_init 4 = .ok (.aload_n 0, 1) := by decide +kernel
theorem dX4_init_5 : decode cX4_init 5 = .ok (.invokevirtual 9, 3) := by decide +kernel
theorem dX4_init_8 : decode cX4_init 8 = .ok (.return_, 1) := by decide +kernel
theorem dX4_setFirst_0 : decode cX4_setFirst 0 = .ok (.aload_n 0, 1) := by decide +kernel
theorem dX4_setFirst_1 : decode cX4_setFirst 1 = .ok (.iconst 2, 1) := by decide +kernel
theorem dX4_setFirst_2 : decode cX4_setFirst 2 = .ok (.iconst 0, 1) := by decide +kernel
theorem dX4_setFirst_3 : decode cX4_setFirst 3 = .ok (.iconst 0, 1) := by decide +kernel
theorem dX4_setFirst_4 : decode cX4_setFirst 4 = .ok (.invokevirtual 14, 3) := by decide +kernel
theorem dX4_setFirst_7 : decode cX4_setFirst 7 = .ok (.return_, 1) := by decide +kernel
theorem dX4_set_0 : decode cX4_set 0 = .ok (.aload_n 0, 1) := by decide +kernel
theorem dX4_set_1 : decode cX4_set 1 = .ok (.iload_n 1, 1) := by decide +kernel
theorem dX4_set_2 : decode cX4_set 2 = .ok (.putfield 18, 3) := by decide +kernel
theorem dX4_set_5 : decode cX4_set 5 = .ok (.aload_n 0, 1) := by decide +kernel
theorem dX4_set_6 : decode cX4_set 6 = .ok (.iload_n 2, 1) := by decide +kernel
theorem dX4_set_7 : decode cX4_set 7 = .ok (.putfield 22, 3) := by decide +kernel
theorem dX4_set_10 : decode cX4_set 10 = .ok (.aload_n 0, 1) := by decide +kernel
theorem dX4_set_11 : decode cX4_set 11 = .ok (.iload_n 3, 1) := by decide +kernel
theorem dX4_set_12 : decode cX4_set 12 = .ok (.putfield 25, 3) := by decide +kernel
theorem dX4_set_15 : decode cX4_set 15 = .ok (.return_, 1) := by decide +kernel
theorem dX4_copyFrom_0 : decode cX4_copyFrom 0 = .ok (.aload_n 0, 1) := by decide +kernel
theorem dX4_copyFrom_1 : decode cX4_copyFrom 1 = .ok (.aload_n 1, 1) := by decide +kernel
theorem dX4_copyFrom_2 : decode cX4_copyFrom 2 = .ok (.getfield 18, 3) := by decide +kernel
theorem dX4_copyFrom_5 : decode cX4_copyFrom 5 = .ok (.aload_n 1, 1) := by decide +kernel
theorem dX4_copyFrom_6 : decode cX4_copyFrom 6 = .ok (.getfield 22, 3) := by decide +kernel
theorem dX4_copyFrom_9 : decode cX4_copyFrom 9 = .ok (.aload_n 1, 1) := by decide +kernel
theorem dX4_copyFrom_10 : decode cX4_copyFrom 10 = .ok (.getfield 25, 3) := by decide +kernel
theorem dX4_copyFrom_13 : decode cX4_copyFrom 13 = .ok (.invokevirtual 14, 3) := by decide +kernel
theorem dX4_copyFrom_16 : decode cX4_copyFrom 16 = .ok (.return_, 1) := by decide +kernel
theorem dX4_is_0 : decode cX4_is 0 = .ok (.aload_n 0, 1) := by decide +kernel
theorem dX4_is_1 : decode cX4_is 1 = .ok (.getfield 18, 3) := by decide +kernel
theorem dX4_is_4 : decode cX4_is 4 = .ok (.iload_n 1, 1) := by decide +kernel
theorem dX4_is_5 : decode cX4_is 5 = .ok (.if_icmp .ne 23, 3) := by decide +kernel
theorem dX4_is_8 : decode cX4_is 8 = .ok (.aload_n 0, 1) := by decide +kernel
theorem dX4_is_9 : decode cX4_is 9 = .ok (.getfield 22, 3) := by decide +kernel
theorem dX4_is_12 : decode cX4_is 12 = .ok (.iload_n 2, 1) := by decide +kernel
theorem dX4_is_13 : decode cX4_is 13 = .ok (.if_icmp .ne 15, 3) := by decide +kernel
theorem dX4_is_16 : decode cX4_is 16 = .ok (.aload_n 0, 1) := by decide +kernel
theorem dX4_is_17 : decode cX4_is 17 = .ok (.getfield 25, 3) := by decide +kernel
theorem dX4_is_20 : decode cX4_is 20 = .ok (.iload_n 3, 1) := by decide +kernel
theorem dX4_is_21 : decode cX4_is 21 = .ok (.if_icmp .ne 7, 3) := by decide +kernel
theorem dX4_is_24 : decode cX4_is 24 = .ok (.iconst 1, 1) := by decide +kernel
theorem dX4_is_25 : decode cX4_is 25 = .ok (.goto 4, 3) := by decide +kernel
theorem dX4_is_28 : decode cX4_is 28 = .ok (.iconst 0, 1) := by decide +kernel
theorem dX4_is_29 : decode cX4_is 29 = .ok (.ireturn, 1) := by decide +kernel
theorem dX4_shows_0 : decode cX4_shows 0 = .ok (.iload_n 1, 1) := by decide +kernel
theorem dX4_shows_1 : decode cX4_shows 1 = .ok (.aload_n 0, 1) := by decide +kernel
theorem dX4_shows_2 : decode cX4_shows 2 = .ok (.getfield 18, 3) := by decide +kernel
theorem dX4_shows_5 : decode cX4_shows 5 = .ok (.if_icmp .gt 27, 3) := by decide +kernel
theorem dX4_shows_8 : decode cX4_shows 8 = .ok (.iload_n 1, 1) := by decide +kernel
theorem dX4_shows_9 : decode cX4_shows 9 = .ok (.iconst 1, 1) := by decide +kernel
theorem dX4_shows_10 : decode cX4_shows 10 = .ok (.if_icmp .lt 26, 3) := by decide +kernel
theorem dX4_shows_13 : decode cX4_shows 13 = .ok (.iload_n 1, 1) := by decide +kernel
theorem dX4_shows_14 : decode cX4_shows 14 = .ok (.iconst 3, 1) := by decide +kernel
theorem dX4_shows_15 : decode cX4_shows 15 = .ok (.if_icmp .gt 21, 3) := by decide +kernel
theorem dX4_shows_18 : decode cX4_shows 18 = .ok (.aload_n 0, 1) := by decide +kernel
theorem dX4_shows_19 : decode cX4_shows 19 = .ok (.getfield 22, 3) := by decide +kernel
theorem dX4_shows_22 : decode cX4_shows 22 = .ok (.iload_n 1, 1) := by decide +kernel
theorem dX4_shows_23 : decode cX4_shows 23 = .ok (.iconst 1, 1) := by decide +kernel
theorem dX4_shows_24 : decode cX4_shows 24 = .ok (.isub, 1) := by decide +kernel
theorem dX4_shows_25 : decode cX4_shows 25 = .ok (.ishr, 1) := by decide +kernel
theorem dX4_shows_26 : decode cX4_shows 26 = .ok (.iconst 1, 1) := by decide +kernel
theorem dX4_shows_27 : decode cX4_shows 27 = .ok (.iand, 1) := by decide +kernel
theorem dX4_shows_28 : decode cX4_shows 28 = .ok (.iconst 1, 1) := by decide +kernel
theorem dX4_shows_29 : decode cX4_shows 29 = .ok (.if_icmp .ne 7, 3) := by decide +kernel
theorem dX4_shows_32 : decode cX4_shows 32 = .ok (.iconst 1, 1) := by decide +kernel
theorem dX4_shows_33 : decode cX4_shows 33 = .ok (.goto 4, 3) := by decide +kernel
theorem dX4_shows_36 : decode cX4_shows 36 = .ok (.iconst 0, 1) := by decide +kernel
theorem dX4_shows_37 : decode cX4_shows 37 = .ok (.ireturn, 1) := by decide +kernel
theorem dX4_hidesNothing_0 : decode cX4_hidesNothing 0 = .ok (.iconst 1, 1) := by decide +kernel
theorem dX4_hidesNothing_1 : decode cX4_hidesNothing 1 = .ok (.aload_n 0, 1) := by decide +kernel
theorem dX4_hidesNothing_2 : decode cX4_hidesNothing 2 = .ok (.getfield 18, 3) := by decide +kernel
theorem dX4_hidesNothing_5 : decode cX4_hidesNothing 5 = .ok (.ishl, 1) := by decide +kernel
theorem dX4_hidesNothing_6 : decode cX4_hidesNothing 6 = .ok (.iconst 1, 1) := by decide +kernel
theorem dX4_hidesNothing_7 : decode cX4_hidesNothing 7 = .ok (.isub, 1) := by decide +kernel
theorem dX4_hidesNothing_8 : decode cX4_hidesNothing 8 = .ok (.istore_n 1, 1) := by decide +kernel
theorem dX4_hidesNothing_9 : decode cX4_hidesNothing 9 = .ok (.aload_n 0, 1) := by decide +kernel
theorem dX4_hidesNothing_10 : decode cX4_hidesNothing 10 = .ok (.getfield 25, 3) := by decide +kernel
theorem dX4_hidesNothing_13 : decode cX4_hidesNothing 13 = .ok (.iconst 1, 1) := by decide +kernel
theorem dX4_hidesNothing_14 : decode cX4_hidesNothing 14 = .ok (.if_icmp .eq 13, 3) := by decide +kernel
theorem dX4_hidesNothing_17 : decode cX4_hidesNothing 17 = .ok (.aload_n 0, 1) := by decide +kernel
theorem dX4_hidesNothing_18 : decode cX4_hidesNothing 18 = .ok (.getfield 22, 3) := by decide +kernel
theorem dX4_hidesNothing_21 : decode cX4_hidesNothing 21 = .ok (.iload_n 1, 1) := by decide +kernel
theorem dX4_hidesNothing_22 : decode cX4_hidesNothing 22 = .ok (.iand, 1) := by decide +kernel
theorem dX4_hidesNothing_23 : decode cX4_hidesNothing 23 = .ok (.iload_n 1, 1) := by decide +kernel
theorem dX4_hidesNothing_24 : decode cX4_hidesNothing 24 = .ok (.if_icmp .ne 7, 3) := by decide +kernel
theorem dX4_hidesNothing_27 : decode cX4_hidesNothing 27 = .ok (.iconst 1, 1) := by decide +kernel
theorem dX4_hidesNothing_28 : decode cX4_hidesNothing 28 = .ok (.goto 4, 3) := by decide +kernel
theorem dX4_hidesNothing_31 : decode cX4_hidesNothing 31 = .ok (.iconst 0, 1) := by decide +kernel
theorem dX4_hidesNothing_32 : decode cX4_hidesNothing 32 = .ok (.ireturn, 1) := by decide +kernel
theorem dX5_init_0 : decode cX5_init 0 = .ok (.aload_n 0, 1) := by decide +kernel
theorem dX5_init_1 : decode cX5_init 1 = .ok (.invokespecial 3, 3) := by decide +kernel
theorem dX5_init_4 : decode cX5_init 4 = .ok (.aload_n 0, 1) := by decide +kernel
theorem dX5_init_5 : decode cX5_init 5 = .ok (.bipush 6, 2) := by decide +kernel
theorem dX5_init_7 : decode cX5_init 7 = .ok (.newarray .int, 2) := by decide +kernel
theorem dX5_init_9 : decode cX5_init 9 = .ok (.putfield 9, 3) := by decide +kernel
theorem dX5_init_12 : decode cX5_init 12 = .ok (.return_, 1) := by decide +kernel
theorem dX5_forgetAll_0 : decode cX5_forgetAll 0 = .ok (.aload_n 0, 1) := by decide +kernel
theorem dX5_forgetAll_1 : decode cX5_forgetAll 1 = .ok (.iconst 0, 1) := by decide +kernel
theorem dX5_forgetAll_2 : decode cX5_forgetAll 2 = .ok (.putfield 15, 3) := by decide +kernel
theorem dX5_forgetAll_5 : decode cX5_forgetAll 5 = .ok (.return_, 1) := by decide +kernel
theorem dX5_copyFrom_0 : decode cX5_copyFrom 0 = .ok (.aload_n 1, 1) := by decide +kernel
theorem dX5_copyFrom_1 : decode cX5_copyFrom 1 = .ok (.getfield 9, 3) := by decide +kernel
theorem dX5_copyFrom_4 : decode cX5_copyFrom 4 = .ok (.iconst 0, 1) := by decide +kernel
theorem dX5_copyFrom_5 : decode cX5_copyFrom 5 = .ok (.aload_n 0, 1) := by decide +kernel
theorem dX5_copyFrom_6 : decode cX5_copyFrom 6 = .ok (.getfield 9, 3) := by decide +kernel
theorem dX5_copyFrom_9 : decode cX5_copyFrom 9 = .ok (.iconst 0, 1) := by decide +kernel
theorem dX5_copyFrom_10 : decode cX5_copyFrom 10 = .ok (.bipush 6, 2) := by decide +kernel
theorem dX5_copyFrom_12 : decode cX5_copyFrom 12 = .ok (.invokestatic 19, 3) := by decide +kernel
theorem dX5_copyFrom_15 : decode cX5_copyFrom 15 = .ok (.aload_n 0, 1) := by decide +kernel
theorem dX5_copyFrom_16 : decode cX5_copyFrom 16 = .ok (.aload_n 1, 1) := by decide +kernel
theorem dX5_copyFrom_17 : decode cX5_copyFrom 17 = .ok (.getfield 15, 3) := by decide +kernel
theorem dX5_copyFrom_20 : decode cX5_copyFrom 20 = .ok (.putfield 15, 3) := by decide +kernel
theorem dX5_copyFrom_23 : decode cX5_copyFrom 23 = .ok (.return_, 1) := by decide +kernel
theorem dX5_codeOf_0 : decode cX5_codeOf 0 = .ok (.iload_n 0, 1) := by decide +kernel
theorem dX5_codeOf_1 : decode cX5_codeOf 1 = .ok (.bipush 6, 2) := by decide +kernel
theorem dX5_codeOf_3 : decode cX5_codeOf 3 = .ok (.ishl, 1) := by decide +kernel
theorem dX5_codeOf_4 : decode cX5_codeOf 4 = .ok (.iload_n 1, 1) := by decide +kernel
theorem dX5_codeOf_5 : decode cX5_codeOf 5 = .ok (.iconst 4, 1) := by decide +kernel
theorem dX5_codeOf_6 : decode cX5_codeOf 6 = .ok (.ishl, 1) := by decide +kernel
theorem dX5_codeOf_7 : decode cX5_codeOf 7 = .ok (.ior, 1) := by decide +kernel
theorem dX5_codeOf_8 : decode cX5_codeOf 8 = .ok (.iload_n 2, 1) := by decide +kernel
theorem dX5_codeOf_9 : decode cX5_codeOf 9 = .ok (.iconst 2, 1) := by decide +kernel
theorem dX5_codeOf_10 : decode cX5_codeOf 10 = .ok (.ishl, 1) := by decide +kernel
theorem dX5_codeOf_11 : decode cX5_codeOf 11 = .ok (.ior, 1) := by decide +kernel
theorem dX5_codeOf_12 : decode cX5_codeOf 12 = .ok (.iload_n 3, 1) := by decide +kernel
theorem dX5_codeOf_13 : decode cX5_codeOf 13 = .ok (.ior, 1) := by decide +kernel
theorem dX5_codeOf_14 : decode cX5_codeOf 14 = .ok (.ireturn, 1) := by decide +kernel
theorem dX5_has_0 : decode cX5_has 0 = .ok (.iload_n 1, 1) := by decide +kernel
theorem dX5_has_1 : decode cX5_has 1 = .ok (.ifCond .lt 21, 3) := by decide +kernel
theorem dX5_has_4 : decode cX5_has 4 = .ok (.iload_n 1, 1) := by decide +kernel
theorem dX5_has_5 : decode cX5_has 5 = .ok (.aload_n 0, 1) := by decide +kernel
theorem dX5_has_6 : decode cX5_has 6 = .ok (.getfield 15, 3) := by decide +kernel
theorem dX5_has_9 : decode cX5_has 9 = .ok (.if_icmp .ge 13, 3) := by decide +kernel
theorem dX5_has_12 : decode cX5_has 12 = .ok (.iload_n 1, 1) := by decide +kernel
theorem dX5_has_13 : decode cX5_has 13 = .ok (.bipush 6, 2) := by decide +kernel
theorem dX5_has_15 : decode cX5_has 15 = .ok (.if_icmp .ge 7, 3) := by decide +kernel
theorem dX5_has_18 : decode cX5_has 18 = .ok (.iconst 1, 1) := by decide +kernel
theorem dX5_has_19 : decode cX5_has 19 = .ok (.goto 4, 3) := by decide +kernel
theorem dX5_has_22 : decode cX5_has 22 = .ok (.iconst 0, 1) := by decide +kernel
theorem dX5_has_23 : decode cX5_has 23 = .ok (.ireturn, 1) := by decide +kernel
theorem dX5_codeAt_0 : decode cX5_codeAt 0 = .ok (.aload_n 0, 1) := by decide +kernel
theorem dX5_codeAt_1 : decode cX5_codeAt 1 = .ok (.iload_n 1, 1) := by decide +kernel
theorem dX5_codeAt_2 : decode cX5_codeAt 2 = .ok (.invokevirtual 25, 3) := by decide +kernel
theorem dX5_codeAt_5 : decode cX5_codeAt 5 = .ok (.ifCond .eq 12, 3) := by decide +kernel
theorem dX5_codeAt_8 : decode cX5_codeAt 8 = .ok (.aload_n 0, 1) := by decide +kernel
theorem dX5_codeAt_9 : decode cX5_codeAt 9 = .ok (.getfield 9, 3) := by decide +kernel
theorem dX5_codeAt_12 : decode cX5_codeAt 12 = .ok (.iload_n 1, 1) := by decide +kernel
theorem dX5_codeAt_13 : decode cX5_codeAt 13 = .ok (.iaload, 1) := by decide +kernel
theorem dX5_codeAt_14 : decode cX5_codeAt 14 = .ok (.goto 4, 3) := by decide +kernel
theorem dX5_codeAt_17 : decode cX5_codeAt 17 = .ok (.iconst (-1), 1) := by decide +kernel
theorem dX5_codeAt_18 : decode cX5_codeAt 18 = .ok (.ireturn, 1) := by decide +kernel
theorem dX5_set_0 : decode cX5_set 0 = .ok (.iload_n 1, 1) := by decide +kernel
theorem dX5_set_1 : decode cX5_set 1 = .ok (.ifCond .lt 17, 3) := by decide +kernel
theorem dX5_set_4 : decode cX5_set 4 = .ok (.iload_n 1, 1) := by decide +kernel
theorem dX5_set_5 : decode cX5_set 5 = .ok (.aload_n 0, 1) := by decide +kernel
theorem dX5_set_6 : decode cX5_set 6 = .ok (.getfield 15, 3) := by decide +kernel
theorem dX5_set_9 : decode cX5_set 9 = .ok (.if_icmp .gt 9, 3) := by decide +kernel
theorem dX5_set_12 : decode cX5_set 12 = .ok (.iload_n 1, 1) := by decide +kernel
theorem dX5_set_13 : decode cX5_set 13 = .ok (.bipush 6, 2) := by decide +kernel
theorem dX5_set_15 : decode cX5_set 15 = .ok (.if_icmp .lt 4, 3) := by decide +kernel
theorem dX5_set_18 : decode cX5_set 18 = .ok (.return_, 1) := by decide +kernel
theorem dX5_set_19 : decode cX5_set 19 = .ok (.aload_n 0, 1) := by decide +kernel
theorem dX5_set_20 : decode cX5_set 20 = .ok (.getfield 9, 3) := by decide +kernel
theorem dX5_set_23 : decode cX5_set 23 = .ok (.iload_n 1, 1) := by decide +kernel
theorem dX5_set_24 : decode cX5_set 24 = .ok (.iload_n 2, 1) := by decide +kernel
theorem dX5_set_25 : decode cX5_set 25 = .ok (.iastore, 1) := by decide +kernel
theorem dX5_set_26 : decode cX5_set 26 = .ok (.iload_n 1, 1) := by decide +kernel
theorem dX5_set_27 : decode cX5_set 27 = .ok (.aload_n 0, 1) := by decide +kernel
theorem dX5_set_28 : decode cX5_set 28 = .ok (.getfield 15, 3) := by decide +kernel
theorem dX5_set_31 : decode cX5_set 31 = .ok (.if_icmp .ne 10, 3) := by decide +kernel
theorem dX5_set_34 : decode cX5_set 34 = .ok (.aload_n 0, 1) := by decide +kernel
theorem dX5_set_35 : decode cX5_set 35 = .ok (.iload_n 1, 1) := by decide +kernel
theorem dX5_set_36 : decode cX5_set 36 = .ok (.iconst 1, 1) := by decide +kernel
theorem dX5_set_37 : decode cX5_set 37 = .ok (.iadd, 1) := by decide +kernel
theorem dX5_set_38 : decode cX5_set 38 = .ok (.putfield 15, 3) := by decide +kernel
theorem dX5_set_41 : decode cX5_set 41 = .ok (.return_, 1) := by decide +kernel
theorem dX5_kindOf_0 : decode cX5_kindOf 0 = .ok (.iload_n 0, 1) := by decide +kernel
theorem dX5_kindOf_1 : decode cX5_kindOf 1 = .ok (.bipush 6, 2) := by decide +kernel
theorem dX5_kindOf_3 : decode cX5_kindOf 3 = .ok (.ishr, 1) := by decide +kernel
theorem dX5_kindOf_4 : decode cX5_kindOf 4 = .ok (.iconst 3, 1) := by decide +kernel
theorem dX5_kindOf_5 : decode cX5_kindOf 5 = .ok (.iand, 1) := by decide +kernel
theorem dX5_kindOf_6 : decode cX5_kindOf 6 = .ok (.ireturn, 1) := by decide +kernel
theorem dX5_targetOf_0 : decode cX5_targetOf 0 = .ok (.iload_n 0, 1) := by decide +kernel
theorem dX5_targetOf_1 : decode cX5_targetOf 1 = .ok (.iconst 4, 1) := by decide +kernel
theorem dX5_targetOf_2 : decode cX5_targetOf 2 = .ok (.ishr, 1) := by decide +kernel
theorem dX5_targetOf_3 : decode cX5_targetOf 3 = .ok (.iconst 3, 1) := by decide +kernel
theorem dX5_targetOf_4 : decode cX5_targetOf 4 = .ok (.iand, 1) := by decide +kernel
theorem dX5_targetOf_5 : decode cX5_targetOf 5 = .ok (.ireturn, 1) := by decide +kernel
theorem dX5_firstOf_0 : decode cX5_firstOf 0 = .ok (.iload_n 0, 1) := by decide +kernel
theorem dX5_firstOf_1 : decode cX5_firstOf 1 = .ok (.iconst 2, 1) := by decide +kernel
theorem dX5_firstOf_2 : decode cX5_firstOf 2 = .ok (.ishr, 1) := by decide +kernel
theorem dX5_firstOf_3 : decode cX5_firstOf 3 = .ok (.iconst 3, 1) := by decide +kernel
theorem dX5_firstOf_4 : decode cX5_firstOf 4 = .ok (.iand, 1) := by decide +kernel
theorem dX5_firstOf_5 : decode cX5_firstOf 5 = .ok (.ireturn, 1) := by decide +kernel
theorem dX5_secondOf_0 : decode cX5_secondOf 0 = .ok (.iload_n 0, 1) := by decide +kernel
theorem dX5_secondOf_1 : decode cX5_secondOf 1 = .ok (.iconst 3, 1) := by decide +kernel
theorem dX5_secondOf_2 : decode cX5_secondOf 2 = .ok (.iand, 1) := by decide +kernel
theorem dX5_secondOf_3 : decode cX5_secondOf 3 = .ok (.ireturn, 1) := by decide +kernel
theorem dX6_init_0 : decode cX6_init 0 = .ok (.aload_n 0, 1) := by decide +kernel
theorem dX6_init_1 : decode cX6_init 1 = .ok (.invokespecial 3, 3) := by decide +kernel
theorem dX6_init_4 : decode cX6_init 4 = .ok (.aload_n 0, 1) := by decide +kernel
theorem dX6_init_5 : decode cX6_init 5 = .ok (.bipush 100, 2) := by decide +kernel
theorem dX6_init_7 : decode cX6_init 7 = .ok (.newarray .int, 2) := by decide +kernel
theorem dX6_init_9 : decode cX6_init 9 = .ok (.putfield 9, 3) := by decide +kernel
theorem dX6_init_12 : decode cX6_init 12 = .ok (.return_, 1) := by decide +kernel
theorem dX6_isFull_0 : decode cX6_isFull 0 = .ok (.aload_n 0, 1) := by decide +kernel
theorem dX6_isFull_1 : decode cX6_isFull 1 = .ok (.getfield 15, 3) := by decide +kernel
theorem dX6_isFull_4 : decode cX6_isFull 4 = .ok (.bipush 100, 2) := by decide +kernel
theorem dX6_isFull_6 : decode cX6_isFull 6 = .ok (.if_icmp .lt 7, 3) := by decide +kernel
theorem dX6_isFull_9 : decode cX6_isFull 9 = .ok (.iconst 1, 1) := by decide +kernel
theorem dX6_isFull_10 : decode cX6_isFull 10 = .ok (.goto 4, 3) := by decide +kernel
theorem dX6_isFull_13 : decode cX6_isFull 13 = .ok (.iconst 0, 1) := by decide +kernel
theorem dX6_isFull_14 : decode cX6_isFull 14 = .ok (.ireturn, 1) := by decide +kernel
theorem dX6_append_0 : decode cX6_append 0 = .ok (.aload_n 0, 1) := by decide +kernel
theorem dX6_append_1 : decode cX6_append 1 = .ok (.getfield 15, 3) := by decide +kernel
theorem dX6_append_4 : decode cX6_append 4 = .ok (.ifCond .lt 32, 3) := by decide +kernel
theorem dX6_append_7 : decode cX6_append 7 = .ok (.aload_n 0, 1) := by decide +kernel
theorem dX6_append_8 : decode cX6_append 8 = .ok (.getfield 15, 3) := by decide +kernel
theorem dX6_append_11 : decode cX6_append 11 = .ok (.bipush 100, 2) := by decide +kernel
theorem dX6_append_13 : decode cX6_append 13 = .ok (.if_icmp .ge 23, 3) := by decide +kernel
theorem dX6_append_16 : decode cX6_append 16 = .ok (.aload_n 0, 1) := by decide +kernel
theorem dX6_append_17 : decode cX6_append 17 = .ok (.getfield 9, 3) := by decide +kernel
theorem dX6_append_20 : decode cX6_append 20 = .ok (.aload_n 0, 1) := by decide +kernel
theorem dX6_append_21 : decode cX6_append 21 = .ok (.getfield 15, 3) := by decide +kernel
theorem dX6_append_24 : decode cX6_append 24 = .ok (.iload_n 1, 1) := by decide +kernel
theorem dX6_append_25 : decode cX6_append 25 = .ok (.iastore, 1) := by decide +kernel
theorem dX6_append_26 : decode cX6_append 26 = .ok (.aload_n 0, 1) := by decide +kernel
theorem dX6_append_27 : decode cX6_append 27 = .ok (.dup, 1) := by decide +kernel
theorem dX6_append_28 : decode cX6_append 28 = .ok (.getfield 15, 3) := by decide +kernel
theorem dX6_append_31 : decode cX6_append 31 = .ok (.iconst 1, 1) := by decide +kernel
theorem dX6_append_32 : decode cX6_append 32 = .ok (.iadd, 1) := by decide +kernel
theorem dX6_append_33 : decode cX6_append 33 = .ok (.putfield 15, 3) := by decide +kernel
theorem dX6_append_36 : decode cX6_append 36 = .ok (.return_, 1) := by decide +kernel
theorem dX6_readAll_0 : decode cX6_readAll 0 = .ok (.aload_n 1, 1) := by decide +kernel
theorem dX6_readAll_1 : decode cX6_readAll 1 = .ok (.invokevirtual 19, 3) := by decide +kernel
theorem dX6_readAll_4 : decode cX6_readAll 4 = .ok (.aload_n 0, 1) := by decide +kernel
theorem dX6_readAll_5 : decode cX6_readAll 5 = .ok (.iconst 0, 1) := by decide +kernel
theorem dX6_readAll_6 : decode cX6_readAll 6 = .ok (.putfield 24, 3) := by decide +kernel
theorem dX6_readAll_9 : decode cX6_readAll 9 = .ok (.iconst 0, 1) := by decide +kernel
theorem dX6_readAll_10 : decode cX6_readAll 10 = .ok (.istore_n 2, 1) := by decide +kernel
theorem dX6_readAll_11 : decode cX6_readAll 11 = .ok (.iload_n 2, 1) := by decide +kernel
theorem dX6_readAll_12 : decode cX6_readAll 12 = .ok (.bipush 100, 2) := by decide +kernel
theorem dX6_readAll_14 : decode cX6_readAll 14 = .ok (.if_icmp .ge 33, 3) := by decide +kernel
theorem dX6_readAll_17 : decode cX6_readAll 17 = .ok (.aload_n 0, 1) := by decide +kernel
theorem dX6_readAll_18 : decode cX6_readAll 18 = .ok (.invokevirtual 27, 3) := by decide +kernel
theorem dX6_readAll_21 : decode cX6_readAll 21 = .ok (.iconst (-1), 1) := by decide +kernel
theorem dX6_readAll_22 : decode cX6_readAll 22 = .ok (.if_icmp .eq 25, 3) := by decide +kernel
theorem dX6_readAll_25 : decode cX6_readAll 25 = .ok (.aload_n 0, 1) := by decide +kernel
theorem dX6_readAll_26 : decode cX6_readAll 26 = .ok (.aload_n 1, 1) := by decide +kernel
theorem dX6_readAll_27 : decode cX6_readAll 27 = .ok (.invokevirtual 31, 3) := by decide +kernel
theorem dX6_readAll_30 : decode cX6_readAll 30 = .ok (.ifCond .ne 11, 3) := by decide +kernel
theorem dX6_readAll_33 : decode cX6_readAll 33 = .ok (.bipush (-10), 2) := by decide +kernel
theorem dX6_readAll_35 : decode cX6_readAll 35 = .ok (.aload_n 0, 1) := by decide +kernel
theorem dX6_readAll_36 : decode cX6_readAll 36 = .ok (.getfield 24, 3) := by decide +kernel
theorem dX6_readAll_39 : decode cX6_readAll 39 = .ok (.isub, 1) := by decide +kernel
theorem dX6_readAll_40 : decode cX6_readAll 40 = .ok (.ireturn, 1) := by decide +kernel
theorem dX6_readAll_41 : decode cX6_readAll 41 = .ok (.iinc 2 1, 3) := by decide +kernel
theorem dX6_readAll_44 : decode cX6_readAll 44 = .ok (.goto (-33), 3) := by decide +kernel
theorem dX6_readAll_47 : decode cX6_readAll 47 = .ok (.aload_n 1, 1) := by decide +kernel
theorem dX6_readAll_48 : decode cX6_readAll 48 = .ok (.getfield 35, 3) := by decide +kernel
theorem dX6_readAll_51 : decode cX6_readAll 51 = .ok (.invokevirtual 39, 3) := by decide +kernel
theorem dX6_readAll_54 : decode cX6_readAll 54 = .ok (.iload_n 2, 1) := by decide +kernel
theorem dX6_readAll_55 : decode cX6_readAll 55 = .ok (.ireturn, 1) := by decide +kernel
theorem dX6_peek_0 : decode cX6_peek 0 = .ok (.aload_n 0, 1) := by decide +kernel
theorem dX6_peek_1 : decode cX6_peek 1 = .ok (.getfield 24, 3) := by decide +kernel
theorem dX6_peek_4 : decode cX6_peek 4 = .ok (.aload_n 0, 1) := by decide +kernel
theorem dX6_peek_5 : decode cX6_peek 5 = .ok (.getfield 15, 3) := by decide +kernel
theorem dX6_peek_8 : decode cX6_peek 8 = .ok (.if_icmp .ge 39, 3) := by decide +kernel
theorem dX6_peek_11 : decode cX6_peek 11 = .ok (.aload_n 0, 1) := by decide +kernel
theorem dX6_peek_12 : decode cX6_peek 12 = .ok (.getfield 24, 3) := by decide +kernel
theorem dX6_peek_15 : decode cX6_peek 15 = .ok (.bipush 100, 2) := by decide +kernel
theorem dX6_peek_17 : decode cX6_peek 17 = .ok (.if_icmp .ge 30, 3) := by decide +kernel
theorem dX6_peek_20 : decode cX6_peek 20 = .ok (.aload_n 0, 1) := by decide +kernel
theorem dX6_peek_21 : decode cX6_peek 21 = .ok (.getfield 9, 3) := by decide +kernel
theorem dX6_peek_24 : decode cX6_peek 24 = .ok (.aload_n 0, 1) := by decide +kernel
theorem dX6_peek_25 : decode cX6_peek 25 = .ok (.getfield 24, 3) := by decide +kernel
theorem dX6_peek_28 : decode cX6_peek 28 = .ok (.iaload, 1) := by decide +kernel
theorem dX6_peek_29 : decode cX6_peek 29 = .ok (.bipush 32, 2) := by decide +kernel
theorem dX6_peek_31 : decode cX6_peek 31 = .ok (.if_icmp .ne 16, 3) := by decide +kernel
theorem dX6_peek_34 : decode cX6_peek 34 = .ok (.aload_n 0, 1) := by decide +kernel
theorem dX6_peek_35 : decode cX6_peek 35 = .ok (.dup, 1) := by decide +kernel
theorem dX6_peek_36 : decode cX6_peek 36 = .ok (.getfield 24, 3) := by decide +kernel
theorem dX6_peek_39 : decode cX6_peek 39 = .ok (.iconst 1, 1) := by decide +kernel
theorem dX6_peek_40 : decode cX6_peek 40 = .ok (.iadd, 1) := by decide +kernel
theorem dX6_peek_41 : decode cX6_peek 41 = .ok (.putfield 24, 3) := by decide +kernel
theorem dX6_peek_44 : decode cX6_peek 44 = .ok (.goto (-44), 3) := by decide +kernel
theorem dX6_peek_47 : decode cX6_peek 47 = .ok (.aload_n 0, 1) := by decide +kernel
theorem dX6_peek_48 : decode cX6_peek 48 = .ok (.getfield 24, 3) := by decide +kernel
theorem dX6_peek_51 : decode cX6_peek 51 = .ok (.ifCond .lt 35, 3) := by decide +kernel
theorem dX6_peek_54 : decode cX6_peek 54 = .ok (.aload_n 0, 1) := by decide +kernel
theorem dX6_peek_55 : decode cX6_peek 55 = .ok (.getfield 24, 3) := by decide +kernel
theorem dX6_peek_58 : decode cX6_peek 58 = .ok (.aload_n 0, 1) := by decide +kernel
theorem dX6_peek_59 : decode cX6_peek 59 = .ok (.getfield 15, 3) := by decide +kernel
theorem dX6_peek_62 : decode cX6_peek 62 = .ok (.if_icmp .ge 24, 3) := by decide +kernel
theorem dX6_peek_65 : decode cX6_peek 65 = .ok (.aload_n 0, 1) := by decide +kernel
theorem dX6_peek_66 : decode cX6_peek 66 = .ok (.getfield 24, 3) := by decide +kernel
theorem dX6_peek_69 : decode cX6_peek 69 = .ok (.bipush 100, 2) := by decide +kernel
theorem dX6_peek_71 : decode cX6_peek 71 = .ok (.if_icmp .ge 15, 3) := by decide +kernel
theorem dX6_peek_74 : decode cX6_peek 74 = .ok (.aload_n 0, 1) := by decide +kernel
theorem dX6_peek_75 : decode cX6_peek 75 = .ok (.getfield 9, 3) := by decide +kernel
theorem dX6_peek_78 : decode cX6_peek 78 = .ok (.aload_n 0, 1) := by decide +kernel
theorem dX6_peek_79 : decode cX6_peek 79 = .ok (.getfield 24, 3) := by decide +kernel
theorem dX6_peek_82 : decode cX6_peek 82 = .ok (.iaload, 1) := by decide +kernel
theorem dX6_peek_83 : decode cX6_peek 83 = .ok (.goto 4, 3) := by decide +kernel
theorem dX6_peek_86 : decode cX6_peek 86 = .ok (.iconst (-1), 1) := by decide +kernel
theorem dX6_peek_87 : decode cX6_peek 87 = .ok (.ireturn, 1) := by decide +kernel
theorem dX6_accept_0 : decode cX6_accept 0 = .ok (.aload_n 0, 1) := by decide +kernel
theorem dX6_accept_1 : decode cX6_accept 1 = .ok (.invokevirtual 27, 3) := by decide +kernel
theorem dX6_accept_4 : decode cX6_accept 4 = .ok (.iload_n 1, 1) := by decide +kernel
theorem dX6_accept_5 : decode cX6_accept 5 = .ok (.if_icmp .eq 5, 3) := by decide +kernel
theorem dX6_accept_8 : decode cX6_accept 8 = .ok (.iconst 0, 1) := by decide +kernel
theorem dX6_accept_9 : decode cX6_accept 9 = .ok (.ireturn, 1) := by decide +kernel
theorem dX6_accept_10 : decode cX6_accept 10 = .ok (.aload_n 0, 1) := by decide +kernel
theorem dX6_accept_11 : decode cX6_accept 11 = .ok (.dup, 1) := by decide +kernel
theorem dX6_accept_12 : decode cX6_accept 12 = .ok (.getfield 24, 3) := by decide +kernel
theorem dX6_accept_15 : decode cX6_accept 15 = .ok (.iconst 1, 1) := by decide +kernel
theorem dX6_accept_16 : decode cX6_accept 16 = .ok (.iadd, 1) := by decide +kernel
theorem dX6_accept_17 : decode cX6_accept 17 = .ok (.putfield 24, 3) := by decide +kernel
theorem dX6_accept_20 : decode cX6_accept 20 = .ok (.iconst 1, 1) := by decide +kernel
theorem dX6_accept_21 : decode cX6_accept 21 = .ok (.ireturn, 1) := by decide +kernel
theorem dX6_readItem_0 : decode cX6_readItem 0 = .ok (.aload_n 0, 1) := by decide +kernel
theorem dX6_readItem_1 : decode cX6_readItem 1 = .ok (.invokevirtual 27, 3) := by decide +kernel
theorem dX6_readItem_4 : decode cX6_readItem 4 = .ok (.lookupswitch 87 #[(33, 59), (61, 52), (110, 66), (111, 80), (117, 73)], 52) := by decide +kernel
theorem dX6_readItem_56 : decode cX6_readItem 56 = .ok (.aload_n 0, 1) := by decide +kernel
theorem dX6_readItem_57 : decode cX6_readItem 57 = .ok (.aload_n 1, 1) := by decide +kernel
theorem dX6_readItem_58 : decode cX6_readItem 58 = .ok (.iconst 1, 1) := by decide +kernel
theorem dX6_readItem_59 : decode cX6_readItem 59 = .ok (.invokevirtual 44, 3) := by decide +kernel
theorem dX6_readItem_62 : decode cX6_readItem 62 = .ok (.ireturn, 1) := by decide +kernel
theorem dX6_readItem_63 : decode cX6_readItem 63 = .ok (.aload_n 0, 1) := by decide +kernel
theorem dX6_readItem_64 : decode cX6_readItem 64 = .ok (.aload_n 1, 1) := by decide +kernel
theorem dX6_readItem_65 : decode cX6_readItem 65 = .ok (.iconst 0, 1) := by decide +kernel
theorem dX6_readItem_66 : decode cX6_readItem 66 = .ok (.invokevirtual 44, 3) := by decide +kernel
theorem dX6_readItem_69 : decode cX6_readItem 69 = .ok (.ireturn, 1) := by decide +kernel
theorem dX6_readItem_70 : decode cX6_readItem 70 = .ok (.aload_n 0, 1) := by decide +kernel
theorem dX6_readItem_71 : decode cX6_readItem 71 = .ok (.aload_n 1, 1) := by decide +kernel
theorem dX6_readItem_72 : decode cX6_readItem 72 = .ok (.iconst 0, 1) := by decide +kernel
theorem dX6_readItem_73 : decode cX6_readItem 73 = .ok (.invokevirtual 48, 3) := by decide +kernel
theorem dX6_readItem_76 : decode cX6_readItem 76 = .ok (.ireturn, 1) := by decide +kernel
theorem dX6_readItem_77 : decode cX6_readItem 77 = .ok (.aload_n 0, 1) := by decide +kernel
theorem dX6_readItem_78 : decode cX6_readItem 78 = .ok (.aload_n 1, 1) := by decide +kernel
theorem dX6_readItem_79 : decode cX6_readItem 79 = .ok (.iconst 1, 1) := by decide +kernel
theorem dX6_readItem_80 : decode cX6_readItem 80 = .ok (.invokevirtual 48, 3) := by decide +kernel
theorem dX6_readItem_83 : decode cX6_readItem 83 = .ok (.ireturn, 1) := by decide +kernel
theorem dX6_readItem_84 : decode cX6_readItem 84 = .ok (.aload_n 0, 1) := by decide +kernel
theorem dX6_readItem_85 : decode cX6_readItem 85 = .ok (.aload_n 1, 1) := by decide +kernel
theorem dX6_readItem_86 : decode cX6_readItem 86 = .ok (.iconst 2, 1) := by decide +kernel
theorem dX6_readItem_87 : decode cX6_readItem 87 = .ok (.invokevirtual 48, 3) := by decide +kernel
theorem dX6_readItem_90 : decode cX6_readItem 90 = .ok (.ireturn, 1) := by decide +kernel
theorem dX6_readItem_91 : decode cX6_readItem 91 = .ok (.iconst 0, 1) := by decide +kernel
theorem dX6_readItem_92 : decode cX6_readItem 92 = .ok (.ireturn, 1) := by decide +kernel
theorem dX6_readFact_0 : decode cX6_readFact 0 = .ok (.aload_n 1, 1) := by decide +kernel
theorem dX6_readFact_1 : decode cX6_readFact 1 = .ok (.getfield 52, 3) := by decide +kernel
theorem dX6_readFact_4 : decode cX6_readFact 4 = .ok (.bipush 6, 2) := by decide +kernel
theorem dX6_readFact_6 : decode cX6_readFact 6 = .ok (.if_icmp .lt 5, 3) := by decide +kernel
theorem dX6_readFact_9 : decode cX6_readFact 9 = .ok (.iconst 0, 1) := by decide +kernel
theorem dX6_readFact_10 : decode cX6_readFact 10 = .ok (.ireturn, 1) := by decide +kernel
theorem dX6_readFact_11 : decode cX6_readFact 11 = .ok (.aload_n 0, 1) := by decide +kernel
theorem dX6_readFact_12 : decode cX6_readFact 12 = .ok (.dup, 1) := by decide +kernel
theorem dX6_readFact_13 : decode cX6_readFact 13 = .ok (.getfield 24, 3) := by decide +kernel
theorem dX6_readFact_16 : decode cX6_readFact 16 = .ok (.iconst 1, 1) := by decide +kernel
theorem dX6_readFact_17 : decode cX6_readFact 17 = .ok (.iadd, 1) := by decide +kernel
theorem dX6_readFact_18 : decode cX6_readFact 18 = .ok (.putfield 24, 3) := by decide +kernel
theorem dX6_readFact_21 : decode cX6_readFact 21 = .ok (.aload_n 0, 1) := by decide +kernel
theorem dX6_readFact_22 : decode cX6_readFact 22 = .ok (.aload_n 1, 1) := by decide +kernel
theorem dX6_readFact_23 : decode cX6_readFact 23 = .ok (.getfield 35, 3) := by decide +kernel
theorem dX6_readFact_26 : decode cX6_readFact 26 = .ok (.iconst 0, 1) := by decide +kernel
theorem dX6_readFact_27 : decode cX6_readFact 27 = .ok (.invokevirtual 55, 3) := by decide +kernel
theorem dX6_readFact_30 : decode cX6_readFact 30 = .ok (.istore_n 3, 1) := by decide +kernel
theorem dX6_readFact_31 : decode cX6_readFact 31 = .ok (.iload_n 3, 1) := by decide +kernel
theorem dX6_readFact_32 : decode cX6_readFact 32 = .ok (.iconst (-1), 1) := by decide +kernel
theorem dX6_readFact_33 : decode cX6_readFact 33 = .ok (.if_icmp .ne 5, 3) := by decide +kernel
theorem dX6_readFact_36 : decode cX6_readFact 36 = .ok (.iconst 0, 1) := by decide +kernel
theorem dX6_readFact_37 : decode cX6_readFact 37 = .ok (.ireturn, 1) := by decide +kernel
theorem dX6_readFact_38 : decode cX6_readFact 38 = .ok (.aload_n 0, 1) := by decide +kernel
theorem dX6_readFact_39 : decode cX6_readFact 39 = .ok (.aload_n 1, 1) := by decide +kernel
theorem dX6_readFact_40 : decode cX6_readFact 40 = .ok (.getfield 35, 3) := by decide +kernel
theorem dX6_readFact_43 : decode cX6_readFact 43 = .ok (.iconst 0, 1) := by decide +kernel
theorem dX6_readFact_44 : decode cX6_readFact 44 = .ok (.invokevirtual 55, 3) := by decide +kernel
theorem dX6_readFact_47 : decode cX6_readFact 47 = .ok (.istore 4, 2) := by decide +kernel
theorem dX6_readFact_49 : decode cX6_readFact 49 = .ok (.iload 4, 2) := by decide +kernel
theorem dX6_readFact_51 : decode cX6_readFact 51 = .ok (.iconst (-1), 1) := by decide +kernel
theorem dX6_readFact_52 : decode cX6_readFact 52 = .ok (.if_icmp .eq 12, 3) := by decide +kernel
theorem dX6_readFact_55 : decode cX6_readFact 55 = .ok (.aload_n 0, 1) := by decide +kernel
theorem dX6_readFact_56 : decode cX6_readFact 56 = .ok (.bipush 59, 2) := by decide +kernel
theorem dX6_readFact_58 : decode cX6_readFact 58 = .ok (.invokevirtual 59, 3) := by decide +kernel
theorem dX6_readFact_61 : decode cX6_readFact 61 = .ok (.ifCond .ne 5, 3) := by decide +kernel
theorem dX6_readFact_64 : decode cX6_readFact 64 = .ok (.iconst 0, 1) := by decide +kernel
theorem dX6_readFact_65 : decode cX6_readFact 65 = .ok (.ireturn, 1) := by decide +kernel
theorem dX6_readFact_66 : decode cX6_readFact 66 = .ok (.aload_n 1, 1) := by decide +kernel
theorem dX6_readFact_67 : decode cX6_readFact 67 = .ok (.iload_n 2, 1) := by decide +kernel
theorem dX6_readFact_68 : decode cX6_readFact 68 = .ok (.iload_n 3, 1) := by decide +kernel
theorem dX6_readFact_69 : decode cX6_readFact 69 = .ok (.iload 4, 2) := by decide +kernel
theorem dX6_readFact_71 : decode cX6_readFact 71 = .ok (.invokevirtual 63, 3) := by decide +kernel
theorem dX6_readFact_74 : decode cX6_readFact 74 = .ok (.iconst 1, 1) := by decide +kernel
theorem dX6_readFact_75 : decode cX6_readFact 75 = .ok (.ireturn, 1) := by decide +kernel
theorem dX6_readTerm_0 : decode cX6_readTerm 0 = .ok (.aload_n 0, 1) := by decide +kernel
theorem dX6_readTerm_1 : decode cX6_readTerm 1 = .ok (.invokevirtual 27, 3) := by decide +kernel
theorem dX6_readTerm_4 : decode cX6_readTerm 4 = .ok (.istore_n 3, 1) := by decide +kernel
theorem dX6_readTerm_5 : decode cX6_readTerm 5 = .ok (.iload_n 3, 1) := by decide +kernel
theorem dX6_readTerm_6 : decode cX6_readTerm 6 = .ok (.bipush 97, 2) := by decide +kernel
theorem dX6_readTerm_8 : decode cX6_readTerm 8 = .ok (.if_icmp .lt 24, 3) := by decide +kernel
theorem dX6_readTerm_11 : decode cX6_readTerm 11 = .ok (.iload_n 3, 1) := by decide +kernel
theorem dX6_readTerm_12 : decode cX6_readTerm 12 = .ok (.bipush 100, 2) := by decide +kernel
theorem dX6_readTerm_14 : decode cX6_readTerm 14 = .ok (.if_icmp .gt 18, 3) := by decide +kernel
theorem dX6_readTerm_17 : decode cX6_readTerm 17 = .ok (.aload_n 0, 1) := by decide +kernel
theorem dX6_readTerm_18 : decode cX6_readTerm 18 = .ok (.dup, 1) := by decide +kernel
theorem dX6_readTerm_19 : decode cX6_readTerm 19 = .ok (.getfield 24, 3) := by decide +kernel
theorem dX6_readTerm_22 : decode cX6_readTerm 22 = .ok (.iconst 1, 1) := by decide +kernel
theorem dX6_readTerm_23 : decode cX6_readTerm 23 = .ok (.iadd, 1) := by decide +kernel
theorem dX6_readTerm_24 : decode cX6_readTerm 24 = .ok (.putfield 24, 3) := by decide +kernel
theorem dX6_readTerm_27 : decode cX6_readTerm 27 = .ok (.iload_n 3, 1) := by decide +kernel
theorem dX6_readTerm_28 : decode cX6_readTerm 28 = .ok (.bipush 97, 2) := by decide +kernel
theorem dX6_readTerm_30 : decode cX6_readTerm 30 = .ok (.isub, 1) := by decide +kernel
theorem dX6_readTerm_31 : decode cX6_readTerm 31 = .ok (.ireturn, 1) := by decide +kernel
theorem dX6_readTerm_32 : decode cX6_readTerm 32 = .ok (.iload_n 3, 1) := by decide +kernel
theorem dX6_readTerm_33 : decode cX6_readTerm 33 = .ok (.bipush 102, 2) := by decide +kernel
theorem dX6_readTerm_35 : decode cX6_readTerm 35 = .ok (.if_icmp .eq 9, 3) := by decide +kernel
theorem dX6_readTerm_38 : decode cX6_readTerm 38 = .ok (.iload_n 3, 1) := by decide +kernel
theorem dX6_readTerm_39 : decode cX6_readTerm 39 = .ok (.bipush 103, 2) := by decide +kernel
theorem dX6_readTerm_41 : decode cX6_readTerm 41 = .ok (.if_icmp .ne 8, 3) := by decide +kernel
theorem dX6_readTerm_44 : decode cX6_readTerm 44 = .ok (.iload_n 2, 1) := by decide +kernel
theorem dX6_readTerm_45 : decode cX6_readTerm 45 = .ok (.iconst 4, 1) := by decide +kernel
theorem dX6_readTerm_46 : decode cX6_readTerm 46 = .ok (.if_icmp .lt 5, 3) := by decide +kernel
theorem dX6_readTerm_49 : decode cX6_readTerm 49 = .ok (.iconst (-1), 1) := by decide +kernel
theorem dX6_readTerm_50 : decode cX6_readTerm 50 = .ok (.ireturn, 1) := by decide +kernel
theorem dX6_readTerm_51 : decode cX6_readTerm 51 = .ok (.aload_n 0, 1) := by decide +kernel
theorem dX6_readTerm_52 : decode cX6_readTerm 52 = .ok (.dup, 1) := by decide +kernel
theorem dX6_readTerm_53 : decode cX6_readTerm 53 = .ok (.getfield 24, 3) := by decide +kernel
theorem dX6_readTerm_56 : decode cX6_readTerm 56 = .ok (.iconst 1, 1) := by decide +kernel
theorem dX6_readTerm_57 : decode cX6_readTerm 57 = .ok (.iadd, 1) := by decide +kernel
theorem dX6_readTerm_58 : decode cX6_readTerm 58 = .ok (.putfield 24, 3) := by decide +kernel
theorem dX6_readTerm_61 : decode cX6_readTerm 61 = .ok (.aload_n 0, 1) := by decide +kernel
theorem dX6_readTerm_62 : decode cX6_readTerm 62 = .ok (.aload_n 1, 1) := by decide +kernel
theorem dX6_readTerm_63 : decode cX6_readTerm 63 = .ok (.iload_n 2, 1) := by decide +kernel
theorem dX6_readTerm_64 : decode cX6_readTerm 64 = .ok (.iconst 1, 1) := by decide +kernel
theorem dX6_readTerm_65 : decode cX6_readTerm 65 = .ok (.iadd, 1) := by decide +kernel
theorem dX6_readTerm_66 : decode cX6_readTerm 66 = .ok (.invokevirtual 55, 3) := by decide +kernel
theorem dX6_readTerm_69 : decode cX6_readTerm 69 = .ok (.istore 4, 2) := by decide +kernel
theorem dX6_readTerm_71 : decode cX6_readTerm 71 = .ok (.iload 4, 2) := by decide +kernel
theorem dX6_readTerm_73 : decode cX6_readTerm 73 = .ok (.iconst (-1), 1) := by decide +kernel
theorem dX6_readTerm_74 : decode cX6_readTerm 74 = .ok (.if_icmp .ne 5, 3) := by decide +kernel
theorem dX6_readTerm_77 : decode cX6_readTerm 77 = .ok (.iconst (-1), 1) := by decide +kernel
theorem dX6_readTerm_78 : decode cX6_readTerm 78 = .ok (.ireturn, 1) := by decide +kernel
theorem dX6_readTerm_79 : decode cX6_readTerm 79 = .ok (.iload_n 3, 1) := by decide +kernel
theorem dX6_readTerm_80 : decode cX6_readTerm 80 = .ok (.bipush 102, 2) := by decide +kernel
theorem dX6_readTerm_82 : decode cX6_readTerm 82 = .ok (.if_icmp .ne 13, 3) := by decide +kernel
theorem dX6_readTerm_85 : decode cX6_readTerm 85 = .ok (.aload_n 1, 1) := by decide +kernel
theorem dX6_readTerm_86 : decode cX6_readTerm 86 = .ok (.iconst 4, 1) := by decide +kernel
theorem dX6_readTerm_87 : decode cX6_readTerm 87 = .ok (.iload 4, 2) := by decide +kernel
theorem dX6_readTerm_89 : decode cX6_readTerm 89 = .ok (.iload 4, 2) := by decide +kernel
theorem dX6_readTerm_91 : decode cX6_readTerm 91 = .ok (.invokevirtual 67, 3) := by decide +kernel
theorem dX6_readTerm_94 : decode cX6_readTerm 94 = .ok (.ireturn, 1) := by decide +kernel
theorem dX6_readTerm_95 : decode cX6_readTerm 95 = .ok (.aload_n 0, 1) := by decide +kernel
theorem dX6_readTerm_96 : decode cX6_readTerm 96 = .ok (.aload_n 1, 1) := by decide +kernel
theorem dX6_readTerm_97 : decode cX6_readTerm 97 = .ok (.iload_n 2, 1) := by decide +kernel
theorem dX6_readTerm_98 : decode cX6_readTerm 98 = .ok (.iconst 1, 1) := by decide +kernel
theorem dX6_readTerm_99 : decode cX6_readTerm 99 = .ok (.iadd, 1) := by decide +kernel
theorem dX6_readTerm_100 : decode cX6_readTerm 100 = .ok (.invokevirtual 55, 3) := by decide +kernel
theorem dX6_readTerm_103 : decode cX6_readTerm 103 = .ok (.istore 5, 2) := by decide +kernel
theorem dX6_readTerm_105 : decode cX6_readTerm 105 = .ok (.iload 5, 2) := by decide +kernel
theorem dX6_readTerm_107 : decode cX6_readTerm 107 = .ok (.iconst (-1), 1) := by decide +kernel
theorem dX6_readTerm_108 : decode cX6_readTerm 108 = .ok (.if_icmp .ne 7, 3) := by decide +kernel
theorem dX6_readTerm_111 : decode cX6_readTerm 111 = .ok (.iconst (-1), 1) := by decide +kernel
theorem dX6_readTerm_112 : decode cX6_readTerm 112 = .ok (.goto 12, 3) := by decide +kernel
theorem dX6_readTerm_115 : decode cX6_readTerm 115 = .ok (.aload_n 1, 1) := by decide +kernel
theorem dX6_readTerm_116 : decode cX6_readTerm 116 = .ok (.iconst 5, 1) := by decide +kernel
theorem dX6_readTerm_117 : decode cX6_readTerm 117 = .ok (.iload 4, 2) := by decide +kernel
theorem dX6_readTerm_119 : decode cX6_readTerm 119 = .ok (.iload 5, 2) := by decide +kernel
theorem dX6_readTerm_121 : decode cX6_readTerm 121 = .ok (.invokevirtual 67, 3) := by decide +kernel
theorem dX6_readTerm_124 : decode cX6_readTerm 124 = .ok (.ireturn, 1) := by decide +kernel
theorem dX6_readInstruction_0 : decode cX6_readInstruction 0 = .ok (.aload_n 1, 1) := by decide +kernel
theorem dX6_readInstruction_1 : decode cX6_readInstruction 1 = .ok (.getfield 71, 3) := by decide +kernel
theorem dX6_readInstruction_4 : decode cX6_readInstruction 4 = .ok (.getfield 75, 3) := by decide +kernel
theorem dX6_readInstruction_7 : decode cX6_readInstruction 7 = .ok (.bipush 6, 2) := by decide +kernel
theorem dX6_readInstruction_9 : decode cX6_readInstruction 9 = .ok (.if_icmp .lt 5, 3) := by decide +kernel
theorem dX6_readInstruction_12 : decode cX6_readInstruction 12 = .ok (.iconst 0, 1) := by decide +kernel
theorem dX6_readInstruction_13 : decode cX6_readInstruction 13 = .ok (.ireturn, 1) := by decide +kernel
theorem dX6_readInstruction_14 : decode cX6_readInstruction 14 = .ok (.aload_n 0, 1) := by decide +kernel
theorem dX6_readInstruction_15 : decode cX6_readInstruction 15 = .ok (.dup, 1) := by decide +kernel
theorem dX6_readInstruction_16 : decode cX6_readInstruction 16 = .ok (.getfield 24, 3) := by decide +kernel
theorem dX6_readInstruction_19 : decode cX6_readInstruction 19 = .ok (.iconst 1, 1) := by decide +kernel
theorem dX6_readInstruction_20 : decode cX6_readInstruction 20 = .ok (.iadd, 1) := by decide +kernel
theorem dX6_readInstruction_21 : decode cX6_readInstruction 21 = .ok (.putfield 24, 3) := by decide +kernel
theorem dX6_readInstruction_24 : decode cX6_readInstruction 24 = .ok (.iload_n 2, 1) := by decide +kernel
theorem dX6_readInstruction_25 : decode cX6_readInstruction 25 = .ok (.ifCond .ne 7, 3) := by decide +kernel
theorem dX6_readInstruction_28 : decode cX6_readInstruction 28 = .ok (.iconst 0, 1) := by decide +kernel
theorem dX6_readInstruction_29 : decode cX6_readInstruction 29 = .ok (.goto 6, 3) := by decide +kernel
theorem dX6_readInstruction_32 : decode cX6_readInstruction 32 = .ok (.iload_n 2, 1) := by decide +kernel
theorem dX6_readInstruction_33 : decode cX6_readInstruction 33 = .ok (.iconst 1, 1) := by decide +kernel
theorem dX6_readInstruction_34 : decode cX6_readInstruction 34 = .ok (.iadd, 1) := by decide +kernel
theorem dX6_readInstruction_35 : decode cX6_readInstruction 35 = .ok (.istore_n 3, 1) := by decide +kernel
theorem dX6_readInstruction_36 : decode cX6_readInstruction 36 = .ok (.iconst 0, 1) := by decide +kernel
theorem dX6_readInstruction_37 : decode cX6_readInstruction 37 = .ok (.istore 4, 2) := by decide +kernel
theorem dX6_readInstruction_39 : decode cX6_readInstruction 39 = .ok (.iconst 0, 1) := by decide +kernel
theorem dX6_readInstruction_40 : decode cX6_readInstruction 40 = .ok (.istore 5, 2) := by decide +kernel
theorem dX6_readInstruction_42 : decode cX6_readInstruction 42 = .ok (.iload 5, 2) := by decide +kernel
theorem dX6_readInstruction_44 : decode cX6_readInstruction 44 = .ok (.iload_n 3, 1) := by decide +kernel
theorem dX6_readInstruction_45 : decode cX6_readInstruction 45 = .ok (.if_icmp .ge 53, 3) := by decide +kernel
theorem dX6_readInstruction_48 : decode cX6_readInstruction 48 = .ok (.aload_n 0, 1) := by decide +kernel
theorem dX6_readInstruction_49 : decode cX6_readInstruction 49 = .ok (.invokevirtual 27, 3) := by decide +kernel
theorem dX6_readInstruction_52 : decode cX6_readInstruction 52 = .ok (.istore 6, 2) := by decide +kernel
theorem dX6_readInstruction_54 : decode cX6_readInstruction 54 = .ok (.iload 6, 2) := by decide +kernel
theorem dX6_readInstruction_56 : decode cX6_readInstruction 56 = .ok (.bipush 48, 2) := by decide +kernel
theorem dX6_readInstruction_58 : decode cX6_readInstruction 58 = .ok (.if_icmp .lt 10, 3) := by decide +kernel
theorem dX6_readInstruction_61 : decode cX6_readInstruction 61 = .ok (.iload 6, 2) := by decide +kernel
theorem dX6_readInstruction_63 : decode cX6_readInstruction 63 = .ok (.bipush 51, 2) := by decide +kernel
theorem dX6_readInstruction_65 : decode cX6_readInstruction 65 = .ok (.if_icmp .le 5, 3) := by decide +kernel
theorem dX6_readInstruction_68 : decode cX6_readInstruction 68 = .ok (.iconst 0, 1) := by decide +kernel
theorem dX6_readInstruction_69 : decode cX6_readInstruction 69 = .ok (.ireturn, 1) := by decide +kernel
theorem dX6_readInstruction_70 : decode cX6_readInstruction 70 = .ok (.aload_n 0, 1) := by decide +kernel
theorem dX6_readInstruction_71 : decode cX6_readInstruction 71 = .ok (.dup, 1) := by decide +kernel
theorem dX6_readInstruction_72 : decode cX6_readInstruction 72 = .ok (.getfield 24, 3) := by decide +kernel
theorem dX6_readInstruction_75 : decode cX6_readInstruction 75 = .ok (.iconst 1, 1) := by decide +kernel
theorem dX6_readInstruction_76 : decode cX6_readInstruction 76 = .ok (.iadd, 1) := by decide +kernel
theorem dX6_readInstruction_77 : decode cX6_readInstruction 77 = .ok (.putfield 24, 3) := by decide +kernel
theorem dX6_readInstruction_80 : decode cX6_readInstruction 80 = .ok (.iload 4, 2) := by decide +kernel
theorem dX6_readInstruction_82 : decode cX6_readInstruction 82 = .ok (.iconst 2, 1) := by decide +kernel
theorem dX6_readInstruction_83 : decode cX6_readInstruction 83 = .ok (.ishl, 1) := by decide +kernel
theorem dX6_readInstruction_84 : decode cX6_readInstruction 84 = .ok (.iload 6, 2) := by decide +kernel
theorem dX6_readInstruction_86 : decode cX6_readInstruction 86 = .ok (.bipush 48, 2) := by decide +kernel
theorem dX6_readInstruction_88 : decode cX6_readInstruction 88 = .ok (.isub, 1) := by decide +kernel
theorem dX6_readInstruction_89 : decode cX6_readInstruction 89 = .ok (.ior, 1) := by decide +kernel
theorem dX6_readInstruction_90 : decode cX6_readInstruction 90 = .ok (.istore 4, 2) := by decide +kernel
theorem dX6_readInstruction_92 : decode cX6_readInstruction 92 = .ok (.iinc 5 1, 3) := by decide +kernel
theorem dX6_readInstruction_95 : decode cX6_readInstruction 95 = .ok (.goto (-53), 3) := by decide +kernel
theorem dX6_readInstruction_98 : decode cX6_readInstruction 98 = .ok (.aload_n 0, 1) := by decide +kernel
theorem dX6_readInstruction_99 : decode cX6_readInstruction 99 = .ok (.bipush 59, 2) := by decide +kernel
theorem dX6_readInstruction_101 : decode cX6_readInstruction 101 = .ok (.invokevirtual 59, 3) := by decide +kernel
theorem dX6_readInstruction_104 : decode cX6_readInstruction 104 = .ok (.ifCond .ne 5, 3) := by decide +kernel
theorem dX6_readInstruction_107 : decode cX6_readInstruction 107 = .ok (.iconst 0, 1) := by decide +kernel
theorem dX6_readInstruction_108 : decode cX6_readInstruction 108 = .ok (.ireturn, 1) := by decide +kernel
theorem dX6_readInstruction_109 : decode cX6_readInstruction 109 = .ok (.iconst 3, 1) := by decide +kernel
theorem dX6_readInstruction_110 : decode cX6_readInstruction 110 = .ok (.iload_n 3, 1) := by decide +kernel
theorem dX6_readInstruction_111 : decode cX6_readInstruction 111 = .ok (.isub, 1) := by decide +kernel
theorem dX6_readInstruction_112 : decode cX6_readInstruction 112 = .ok (.istore 5, 2) := by decide +kernel
theorem dX6_readInstruction_114 : decode cX6_readInstruction 114 = .ok (.aload_n 1, 1) := by decide +kernel
theorem dX6_readInstruction_115 : decode cX6_readInstruction 115 = .ok (.getfield 71, 3) := by decide +kernel
theorem dX6_readInstruction_118 : decode cX6_readInstruction 118 = .ok (.aload_n 1, 1) := by decide +kernel
theorem dX6_readInstruction_119 : decode cX6_readInstruction 119 = .ok (.getfield 71, 3) := by decide +kernel
theorem dX6_readInstruction_122 : decode cX6_readInstruction 122 = .ok (.getfield 75, 3) := by decide +kernel
theorem dX6_readInstruction_125 : decode cX6_readInstruction 125 = .ok (.iload_n 2, 1) := by decide +kernel
theorem dX6_readInstruction_126 : decode cX6_readInstruction 126 = .ok (.iconst 0, 1) := by decide +kernel
theorem dX6_readInstruction_127 : decode cX6_readInstruction 127 = .ok (.iconst 0, 1) := by decide +kernel
theorem dX6_readInstruction_128 : decode cX6_readInstruction 128 = .ok (.iconst 0, 1) := by decide +kernel
theorem dX6_readInstruction_129 : decode cX6_readInstruction 129 = .ok (.invokestatic 78, 3) := by decide +kernel
theorem dX6_readInstruction_132 : decode cX6_readInstruction 132 = .ok (.iload 4, 2) := by decide +kernel
theorem dX6_readInstruction_134 : decode cX6_readInstruction 134 = .ok (.iconst 2, 1) := by decide +kernel
theorem dX6_readInstruction_135 : decode cX6_readInstruction 135 = .ok (.iload 5, 2) := by decide +kernel
theorem dX6_readInstruction_137 : decode cX6_readInstruction 137 = .ok (.imul, 1) := by decide +kernel
theorem dX6_readInstruction_138 : decode cX6_readInstruction 138 = .ok (.ishl, 1) := by decide +kernel
theorem dX6_readInstruction_139 : decode cX6_readInstruction 139 = .ok (.ior, 1) := by decide +kernel
theorem dX6_readInstruction_140 : decode cX6_readInstruction 140 = .ok (.invokevirtual 82, 3) := by decide +kernel
theorem dX6_readInstruction_143 : decode cX6_readInstruction 143 = .ok (.iconst 1, 1) := by decide +kernel
theorem dX6_readInstruction_144 : decode cX6_readInstruction 144 = .ok (.ireturn, 1) := by decide +kernel
theorem dX7_init_0 : decode cX7_init 0 = .ok (.aload_n 0, 1) := by decide +kernel
theorem dX7_init_1 : decode cX7_init 1 = .ok (.invokespecial 1, 3) := by decide +kernel
theorem dX7_init_4 : decode cX7_init 4 = .ok (.aload_n 0, 1) := by decide +kernel
theorem dX7_init_5 : decode cX7_init 5 = .ok (.new 7, 3) := by decide +kernel
theorem dX7_init_8 : decode cX7_init 8 = .ok (.dup, 1) := by decide +kernel
theorem dX7_init_9 : decode cX7_init 9 = .ok (.invokespecial 9, 3) := by decide +kernel
theorem dX7_init_12 : decode cX7_init 12 = .ok (.putfield 10, 3) := by decide +kernel
theorem dX7_init_15 : decode cX7_init 15 = .ok (.aload_n 0, 1) := by decide +kernel
theorem dX7_init_16 : decode cX7_init 16 = .ok (.new 16, 3) := by decide +kernel
theorem dX7_init_19 : decode cX7_init 19 = .ok (.dup, 1) := by decide +kernel
theorem dX7_init_20 : decode cX7_init 20 = .ok (.invokespecial 18, 3) := by decide +kernel
theorem dX7_init_23 : decode cX7_init 23 = .ok (.putfield 19, 3) := by decide +kernel
theorem dX7_init_26 : decode cX7_init 26 = .ok (.return_, 1) := by decide +kernel
theorem dX7_copyFrom_0 : decode cX7_copyFrom 0 = .ok (.aload_n 0, 1) := by decide +kernel
theorem dX7_copyFrom_1 : decode cX7_copyFrom 1 = .ok (.getfield 10, 3) := by decide +kernel
theorem dX7_copyFrom_4 : decode cX7_copyFrom 4 = .ok (.aload_n 1, 1) := by decide +kernel
theorem dX7_copyFrom_5 : decode cX7_copyFrom 5 = .ok (.getfield 10, 3) := by decide +kernel
theorem dX7_copyFrom_8 : decode cX7_copyFrom 8 = .ok (.invokevirtual 23, 3) := by decide +kernel
theorem dX7_copyFrom_11 : decode cX7_copyFrom 11 = .ok (.aload_n 0, 1) := by decide +kernel
theorem dX7_copyFrom_12 : decode cX7_copyFrom 12 = .ok (.getfield 19, 3) := by decide +kernel
theorem dX7_copyFrom_15 : decode cX7_copyFrom 15 = .ok (.aload_n 1, 1) := by decide +kernel
theorem dX7_copyFrom_16 : decode cX7_copyFrom 16 = .ok (.getfield 19, 3) := by decide +kernel
theorem dX7_copyFrom_19 : decode cX7_copyFrom 19 = .ok (.invokevirtual 27, 3) := by decide +kernel
theorem dX7_copyFrom_22 : decode cX7_copyFrom 22 = .ok (.aload_n 0, 1) := by decide +kernel
theorem dX7_copyFrom_23 : decode cX7_copyFrom 23 = .ok (.aload_n 1, 1) := by decide +kernel
theorem dX7_copyFrom_24 : decode cX7_copyFrom 24 = .ok (.getfield 30, 3) := by decide +kernel
theorem dX7_copyFrom_27 : decode cX7_copyFrom 27 = .ok (.putfield 30, 3) := by decide +kernel
theorem dX7_copyFrom_30 : decode cX7_copyFrom 30 = .ok (.return_, 1) := by decide +kernel
theorem dX7_startAs_0 : decode cX7_startAs 0 = .ok (.aload_n 0, 1) := by decide +kernel
theorem dX7_startAs_1 : decode cX7_startAs 1 = .ok (.getfield 10, 3) := by decide +kernel
theorem dX7_startAs_4 : decode cX7_startAs 4 = .ok (.aload_n 1, 1) := by decide +kernel
theorem dX7_startAs_5 : decode cX7_startAs 5 = .ok (.getfield 34, 3) := by decide +kernel
theorem dX7_startAs_8 : decode cX7_startAs 8 = .ok (.invokevirtual 23, 3) := by decide +kernel
theorem dX7_startAs_11 : decode cX7_startAs 11 = .ok (.aload_n 0, 1) := by decide +kernel
theorem dX7_startAs_12 : decode cX7_startAs 12 = .ok (.getfield 19, 3) := by decide +kernel
theorem dX7_startAs_15 : decode cX7_startAs 15 = .ok (.invokevirtual 37, 3) := by decide +kernel
theorem dX7_startAs_18 : decode cX7_startAs 18 = .ok (.aload_n 0, 1) := by decide +kernel
theorem dX7_startAs_19 : decode cX7_startAs 19 = .ok (.iconst 1, 1) := by decide +kernel
theorem dX7_startAs_20 : decode cX7_startAs 20 = .ok (.aload_n 1, 1) := by decide +kernel
theorem dX7_startAs_21 : decode cX7_startAs 21 = .ok (.getfield 40, 3) := by decide +kernel
theorem dX7_startAs_24 : decode cX7_startAs 24 = .ok (.ishl, 1) := by decide +kernel
theorem dX7_startAs_25 : decode cX7_startAs 25 = .ok (.iconst 1, 1) := by decide +kernel
theorem dX7_startAs_26 : decode cX7_startAs 26 = .ok (.isub, 1) := by decide +kernel
theorem dX7_startAs_27 : decode cX7_startAs 27 = .ok (.putfield 30, 3) := by decide +kernel
theorem dX7_startAs_30 : decode cX7_startAs 30 = .ok (.return_, 1) := by decide +kernel
theorem dX8_init_0 : decode cX8_init 0 = .ok (.aload_n 0, 1) := by decide +kernel
theorem dX8_init_1 : decode cX8_init 1 = .ok (.invokespecial 3, 3) := by decide +kernel
theorem dX8_init_4 : decode cX8_init 4 = .ok (.iload_n 1, 1) := by decide +kernel
theorem dX8_init_5 : decode cX8_init 5 = .ok (.iconst 4, 1) := by decide +kernel
theorem dX8_init_6 : decode cX8_init 6 = .ok (.invokestatic 9, 3) := by decide +kernel
theorem dX8_init_9 : decode cX8_init 9 = .ok (.istore_n 2, 1) := by decide +kernel
theorem dX8_init_10 : decode cX8_init 10 = .ok (.aload_n 0, 1) := by decide +kernel
theorem dX8_init_11 : decode cX8_init 11 = .ok (.iload_n 2, 1) := by decide +kernel
theorem dX8_init_12 : decode cX8_init 12 = .ok (.newarray .int, 2) := by decide +kernel
theorem dX8_init_14 : decode cX8_init 14 = .ok (.putfield 15, 3) := by decide +kernel
theorem dX8_init_17 : decode cX8_init 17 = .ok (.aload_n 0, 1) := by decide +kernel
theorem dX8_init_18 : decode cX8_init 18 = .ok (.iload_n 2, 1) := by decide +kernel
theorem dX8_init_19 : decode cX8_init 19 = .ok (.newarray .int, 2) := by decide +kernel
theorem dX8_init_21 : decode cX8_init 21 = .ok (.putfield 21, 3) := by decide +kernel
theorem dX8_init_24 : decode cX8_init 24 = .ok (.aload_n 0, 1) := by decide +kernel
theorem dX8_init_25 : decode cX8_init 25 = .ok (.iload_n 2, 1) := by decide +kernel
theorem dX8_init_26 : decode cX8_init 26 = .ok (.newarray .int, 2) := by decide +kernel
theorem dX8_init_28 : decode cX8_init 28 = .ok (.putfield 24, 3) := by decide +kernel
theorem dX8_init_31 : decode cX8_init 31 = .ok (.aload_n 0, 1) := by decide +kernel
theorem dX8_init_32 : decode cX8_init 32 = .ok (.iload_n 2, 1) := by decide +kernel
theorem dX8_init_33 : decode cX8_init 33 = .ok (.newarray .int, 2) := by decide +kernel
theorem dX8_init_35 : decode cX8_init 35 = .ok (.putfield 27, 3) := by decide +kernel
theorem dX8_init_38 : decode cX8_init 38 = .ok (.aload_n 0, 1) := by decide +kernel
theorem dX8_init_39 : decode cX8_init 39 = .ok (.iload_n 2, 1) := by decide +kernel
theorem dX8_init_40 : decode cX8_init 40 = .ok (.newarray .int, 2) := by decide +kernel
theorem dX8_init_42 : decode cX8_init 42 = .ok (.putfield 30, 3) := by decide +kernel
theorem dX8_init_45 : decode cX8_init 45 = .ok (.iconst 0, 1) := by decide +kernel
theorem dX8_init_46 : decode cX8_init 46 = .ok (.istore_n 3, 1) := by decide +kernel
end
section
theorem dX8_init_47 : decode cX8_init 47 = .ok (.iload_n 3, 1) := by decide +kernel
theorem dX8_init_48 : decode cX8_init 48 = .ok (.iconst 4, 1) := by decide +kernel
theorem dX8_init_49 : decode cX8_init 49 = .ok (.if_icmp .ge 37, 3) := by decide +kernel
theorem dX8_init_52 : decode cX8_init 52 = .ok (.aload_n 0, 1) := by decide +kernel
theorem dX8_init_53 : decode cX8_init 53 = .ok (.getfield 15, 3) := by decide +kernel
theorem dX8_init_56 : decode cX8_init 56 = .ok (.iload_n 3, 1) := by decide +kernel
theorem dX8_init_57 : decode cX8_init 57 = .ok (.iload_n 3, 1) := by decide +kernel
theorem dX8_init_58 : decode cX8_init 58 = .ok (.iastore, 1) := by decide +kernel
theorem dX8_init_59 : decode cX8_init 59 = .ok (.aload_n 0, 1) := by decide +kernel
theorem dX8_init_60 : decode cX8_init 60 = .ok (.getfield 21, 3) := by decide +kernel
theorem dX8_init_63 : decode cX8_init 63 = .ok (.iload_n 3, 1) := by decide +kernel
theorem dX8_init_64 : decode cX8_init 64 = .ok (.iload_n 3, 1) := by decide +kernel
theorem dX8_init_65 : decode cX8_init 65 = .ok (.iastore, 1) := by decide +kernel
theorem dX8_init_66 : decode cX8_init 66 = .ok (.aload_n 0, 1) := by decide +kernel
theorem dX8_init_67 : decode cX8_init 67 = .ok (.getfield 24, 3) := by decide +kernel
theorem dX8_init_70 : decode cX8_init 70 = .ok (.iload_n 3, 1) := by decide +kernel
theorem dX8_init_71 : decode cX8_init 71 = .ok (.iload_n 3, 1) := by decide +kernel
theorem dX8_init_72 : decode cX8_init 72 = .ok (.iastore, 1) := by decide +kernel
theorem dX8_init_73 : decode cX8_init 73 = .ok (.aload_n 0, 1) := by decide +kernel
theorem dX8_init_74 : decode cX8_init 74 = .ok (.getfield 30, 3) := by decide +kernel
theorem dX8_init_77 : decode cX8_init 77 = .ok (.iload_n 3, 1) := by decide +kernel
theorem dX8_init_78 : decode cX8_init 78 = .ok (.iconst 1, 1) := by decide +kernel
theorem dX8_init_79 : decode cX8_init 79 = .ok (.iastore, 1) := by decide +kernel
theorem dX8_init_80 : decode cX8_init 80 = .ok (.iinc 3 1, 3) := by decide +kernel
theorem dX8_init_83 : decode cX8_init 83 = .ok (.goto (-36), 3) := by decide +kernel
theorem dX8_init_86 : decode cX8_init 86 = .ok (.aload_n 0, 1) := by decide +kernel
theorem dX8_init_87 : decode cX8_init 87 = .ok (.invokevirtual 33, 3) := by decide +kernel
theorem dX8_init_90 : decode cX8_init 90 = .ok (.return_, 1) := by decide +kernel
theorem dX8_forgetAll_0 : decode cX8_forgetAll 0 = .ok (.aload_n 0, 1) := by decide +kernel
theorem dX8_forgetAll_1 : decode cX8_forgetAll 1 = .ok (.iconst 4, 1) := by decide +kernel
theorem dX8_forgetAll_2 : decode cX8_forgetAll 2 = .ok (.putfield 36, 3) := by decide +kernel
theorem dX8_forgetAll_5 : decode cX8_forgetAll 5 = .ok (.aload_n 0, 1) := by decide +kernel
theorem dX8_forgetAll_6 : decode cX8_forgetAll 6 = .ok (.iconst 4, 1) := by decide +kernel
theorem dX8_forgetAll_7 : decode cX8_forgetAll 7 = .ok (.putfield 40, 3) := by decide +kernel
theorem dX8_forgetAll_10 : decode cX8_forgetAll 10 = .ok (.return_, 1) := by decide +kernel
theorem dX8_makeLasting_0 : decode cX8_makeLasting 0 = .ok (.aload_n 0, 1) := by decide +kernel
theorem dX8_makeLasting_1 : decode cX8_makeLasting 1 = .ok (.aload_n 0, 1) := by decide +kernel
theorem dX8_makeLasting_2 : decode cX8_makeLasting 2 = .ok (.getfield 36, 3) := by decide +kernel
theorem dX8_makeLasting_5 : decode cX8_makeLasting 5 = .ok (.putfield 40, 3) := by decide +kernel
theorem dX8_makeLasting_8 : decode cX8_makeLasting 8 = .ok (.return_, 1) := by decide +kernel
theorem dX8_dropPassing_0 : decode cX8_dropPassing 0 = .ok (.aload_n 0, 1) := by decide +kernel
theorem dX8_dropPassing_1 : decode cX8_dropPassing 1 = .ok (.aload_n 0, 1) := by decide +kernel
theorem dX8_dropPassing_2 : decode cX8_dropPassing 2 = .ok (.getfield 40, 3) := by decide +kernel
theorem dX8_dropPassing_5 : decode cX8_dropPassing 5 = .ok (.putfield 36, 3) := by decide +kernel
theorem dX8_dropPassing_8 : decode cX8_dropPassing 8 = .ok (.return_, 1) := by decide +kernel
theorem dX8_has_0 : decode cX8_has 0 = .ok (.iload_n 1, 1) := by decide +kernel
theorem dX8_has_1 : decode cX8_has 1 = .ok (.ifCond .lt 24, 3) := by decide +kernel
theorem dX8_has_4 : decode cX8_has 4 = .ok (.iload_n 1, 1) := by decide +kernel
theorem dX8_has_5 : decode cX8_has 5 = .ok (.aload_n 0, 1) := by decide +kernel
theorem dX8_has_6 : decode cX8_has 6 = .ok (.getfield 36, 3) := by decide +kernel
theorem dX8_has_9 : decode cX8_has 9 = .ok (.if_icmp .ge 16, 3) := by decide +kernel
theorem dX8_has_12 : decode cX8_has 12 = .ok (.iload_n 1, 1) := by decide +kernel
theorem dX8_has_13 : decode cX8_has 13 = .ok (.aload_n 0, 1) := by decide +kernel
theorem dX8_has_14 : decode cX8_has 14 = .ok (.getfield 15, 3) := by decide +kernel
theorem dX8_has_17 : decode cX8_has 17 = .ok (.arraylength, 1) := by decide +kernel
theorem dX8_has_18 : decode cX8_has 18 = .ok (.if_icmp .ge 7, 3) := by decide +kernel
theorem dX8_has_21 : decode cX8_has 21 = .ok (.iconst 1, 1) := by decide +kernel
theorem dX8_has_22 : decode cX8_has 22 = .ok (.goto 4, 3) := by decide +kernel
theorem dX8_has_25 : decode cX8_has 25 = .ok (.iconst 0, 1) := by decide +kernel
theorem dX8_has_26 : decode cX8_has 26 = .ok (.ireturn, 1) := by decide +kernel
theorem dX8_make_0 : decode cX8_make 0 = .ok (.iload_n 1, 1) := by decide +kernel
theorem dX8_make_1 : decode cX8_make 1 = .ok (.iconst 5, 1) := by decide +kernel
theorem dX8_make_2 : decode cX8_make 2 = .ok (.if_icmp .ne 7, 3) := by decide +kernel
theorem dX8_make_5 : decode cX8_make 5 = .ok (.iload_n 3, 1) := by decide +kernel
theorem dX8_make_6 : decode cX8_make 6 = .ok (.goto 4, 3) := by decide +kernel
theorem dX8_make_9 : decode cX8_make 9 = .ok (.iload_n 2, 1) := by decide +kernel
theorem dX8_make_10 : decode cX8_make 10 = .ok (.istore 4, 2) := by decide +kernel
theorem dX8_make_12 : decode cX8_make 12 = .ok (.aload_n 0, 1) := by decide +kernel
theorem dX8_make_13 : decode cX8_make 13 = .ok (.iload_n 2, 1) := by decide +kernel
theorem dX8_make_14 : decode cX8_make 14 = .ok (.invokevirtual 43, 3) := by decide +kernel
theorem dX8_make_17 : decode cX8_make 17 = .ok (.ifCond .eq 12, 3) := by decide +kernel
theorem dX8_make_20 : decode cX8_make 20 = .ok (.aload_n 0, 1) := by decide +kernel
theorem dX8_make_21 : decode cX8_make 21 = .ok (.iload 4, 2) := by decide +kernel
theorem dX8_make_23 : decode cX8_make 23 = .ok (.invokevirtual 43, 3) := by decide +kernel
theorem dX8_make_26 : decode cX8_make 26 = .ok (.ifCond .ne 5, 3) := by decide +kernel
theorem dX8_make_29 : decode cX8_make 29 = .ok (.iconst 0, 1) := by decide +kernel
theorem dX8_make_30 : decode cX8_make 30 = .ok (.ireturn, 1) := by decide +kernel
theorem dX8_make_31 : decode cX8_make 31 = .ok (.iconst 4, 1) := by decide +kernel
theorem dX8_make_32 : decode cX8_make 32 = .ok (.istore 5, 2) := by decide +kernel
theorem dX8_make_34 : decode cX8_make 34 = .ok (.iload 5, 2) := by decide +kernel
theorem dX8_make_36 : decode cX8_make 36 = .ok (.aload_n 0, 1) := by decide +kernel
theorem dX8_make_37 : decode cX8_make 37 = .ok (.getfield 36, 3) := by decide +kernel
theorem dX8_make_40 : decode cX8_make 40 = .ok (.if_icmp .ge 56, 3) := by decide +kernel
theorem dX8_make_43 : decode cX8_make 43 = .ok (.iload 5, 2) := by decide +kernel
theorem dX8_make_45 : decode cX8_make 45 = .ok (.aload_n 0, 1) := by decide +kernel
theorem dX8_make_46 : decode cX8_make 46 = .ok (.getfield 15, 3) := by decide +kernel
theorem dX8_make_49 : decode cX8_make 49 = .ok (.arraylength, 1) := by decide +kernel
theorem dX8_make_50 : decode cX8_make 50 = .ok (.if_icmp .ge 46, 3) := by decide +kernel
theorem dX8_make_53 : decode cX8_make 53 = .ok (.aload_n 0, 1) := by decide +kernel
theorem dX8_make_54 : decode cX8_make 54 = .ok (.getfield 15, 3) := by decide +kernel
theorem dX8_make_57 : decode cX8_make 57 = .ok (.iload 5, 2) := by decide +kernel
theorem dX8_make_59 : decode cX8_make 59 = .ok (.iaload, 1) := by decide +kernel
theorem dX8_make_60 : decode cX8_make 60 = .ok (.iload_n 1, 1) := by decide +kernel
theorem dX8_make_61 : decode cX8_make 61 = .ok (.if_icmp .ne 29, 3) := by decide +kernel
theorem dX8_make_64 : decode cX8_make 64 = .ok (.aload_n 0, 1) := by decide +kernel
theorem dX8_make_65 : decode cX8_make 65 = .ok (.getfield 21, 3) := by decide +kernel
theorem dX8_make_68 : decode cX8_make 68 = .ok (.iload 5, 2) := by decide +kernel
theorem dX8_make_70 : decode cX8_make 70 = .ok (.iaload, 1) := by decide +kernel
theorem dX8_make_71 : decode cX8_make 71 = .ok (.iload_n 2, 1) := by decide +kernel
theorem dX8_make_72 : decode cX8_make 72 = .ok (.if_icmp .ne 18, 3) := by decide +kernel
theorem dX8_make_75 : decode cX8_make 75 = .ok (.aload_n 0, 1) := by decide +kernel
theorem dX8_make_76 : decode cX8_make 76 = .ok (.getfield 24, 3) := by decide +kernel
theorem dX8_make_79 : decode cX8_make 79 = .ok (.iload 5, 2) := by decide +kernel
theorem dX8_make_81 : decode cX8_make 81 = .ok (.iaload, 1) := by decide +kernel
theorem dX8_make_82 : decode cX8_make 82 = .ok (.iload 4, 2) := by decide +kernel
theorem dX8_make_84 : decode cX8_make 84 = .ok (.if_icmp .ne 6, 3) := by decide +kernel
theorem dX8_make_87 : decode cX8_make 87 = .ok (.iload 5, 2) := by decide +kernel
theorem dX8_make_89 : decode cX8_make 89 = .ok (.ireturn, 1) := by decide +kernel
theorem dX8_make_90 : decode cX8_make 90 = .ok (.iinc 5 1, 3) := by decide +kernel
theorem dX8_make_93 : decode cX8_make 93 = .ok (.goto (-59), 3) := by decide +kernel
theorem dX8_make_96 : decode cX8_make 96 = .ok (.aload_n 0, 1) := by decide +kernel
theorem dX8_make_97 : decode cX8_make 97 = .ok (.getfield 36, 3) := by decide +kernel
theorem dX8_make_100 : decode cX8_make 100 = .ok (.ifCond .lt 30, 3) := by decide +kernel
theorem dX8_make_103 : decode cX8_make 103 = .ok (.aload_n 0, 1) := by decide +kernel
theorem dX8_make_104 : decode cX8_make 104 = .ok (.getfield 36, 3) := by decide +kernel
theorem dX8_make_107 : decode cX8_make 107 = .ok (.aload_n 0, 1) := by decide +kernel
theorem dX8_make_108 : decode cX8_make 108 = .ok (.getfield 15, 3) := by decide +kernel
theorem dX8_make_111 : decode cX8_make 111 = .ok (.arraylength, 1) := by decide +kernel
theorem dX8_make_112 : decode cX8_make 112 = .ok (.if_icmp .ge 18, 3) := by decide +kernel
theorem dX8_make_115 : decode cX8_make 115 = .ok (.aload_n 0, 1) := by decide +kernel
theorem dX8_make_116 : decode cX8_make 116 = .ok (.aload_n 0, 1) := by decide +kernel
theorem dX8_make_117 : decode cX8_make 117 = .ok (.getfield 36, 3) := by decide +kernel
theorem dX8_make_120 : decode cX8_make 120 = .ok (.iload_n 1, 1) := by decide +kernel
theorem dX8_make_121 : decode cX8_make 121 = .ok (.iload_n 2, 1) := by decide +kernel
theorem dX8_make_122 : decode cX8_make 122 = .ok (.iload 4, 2) := by decide +kernel
theorem dX8_make_124 : decode cX8_make 124 = .ok (.invokevirtual 47, 3) := by decide +kernel
theorem dX8_make_127 : decode cX8_make 127 = .ok (.goto 4, 3) := by decide +kernel
theorem dX8_make_130 : decode cX8_make 130 = .ok (.iconst 0, 1) := by decide +kernel
theorem dX8_make_131 : decode cX8_make 131 = .ok (.ireturn, 1) := by decide +kernel
theorem dX8_append_0 : decode cX8_append 0 = .ok (.aload_n 0, 1) := by decide +kernel
theorem dX8_append_1 : decode cX8_append 1 = .ok (.getfield 15, 3) := by decide +kernel
theorem dX8_append_4 : decode cX8_append 4 = .ok (.iload_n 1, 1) := by decide +kernel
theorem dX8_append_5 : decode cX8_append 5 = .ok (.iload_n 2, 1) := by decide +kernel
theorem dX8_append_6 : decode cX8_append 6 = .ok (.iastore, 1) := by decide +kernel
theorem dX8_append_7 : decode cX8_append 7 = .ok (.aload_n 0, 1) := by decide +kernel
theorem dX8_append_8 : decode cX8_append 8 = .ok (.getfield 21, 3) := by decide +kernel
theorem dX8_append_11 : decode cX8_append 11 = .ok (.iload_n 1, 1) := by decide +kernel
theorem dX8_append_12 : decode cX8_append 12 = .ok (.iload_n 3, 1) := by decide +kernel
theorem dX8_append_13 : decode cX8_append 13 = .ok (.iastore, 1) := by decide +kernel
theorem dX8_append_14 : decode cX8_append 14 = .ok (.aload_n 0, 1) := by decide +kernel
theorem dX8_append_15 : decode cX8_append 15 = .ok (.getfield 24, 3) := by decide +kernel
theorem dX8_append_18 : decode cX8_append 18 = .ok (.iload_n 1, 1) := by decide +kernel
theorem dX8_append_19 : decode cX8_append 19 = .ok (.iload 4, 2) := by decide +kernel
theorem dX8_append_21 : decode cX8_append 21 = .ok (.iastore, 1) := by decide +kernel
theorem dX8_append_22 : decode cX8_append 22 = .ok (.aload_n 0, 1) := by decide +kernel
theorem dX8_append_23 : decode cX8_append 23 = .ok (.getfield 27, 3) := by decide +kernel
theorem dX8_append_26 : decode cX8_append 26 = .ok (.iload_n 1, 1) := by decide +kernel
theorem dX8_append_27 : decode cX8_append 27 = .ok (.iconst 1, 1) := by decide +kernel
theorem dX8_append_28 : decode cX8_append 28 = .ok (.aload_n 0, 1) := by decide +kernel
theorem dX8_append_29 : decode cX8_append 29 = .ok (.getfield 27, 3) := by decide +kernel
theorem dX8_append_32 : decode cX8_append 32 = .ok (.iload_n 3, 1) := by decide +kernel
theorem dX8_append_33 : decode cX8_append 33 = .ok (.iaload, 1) := by decide +kernel
theorem dX8_append_34 : decode cX8_append 34 = .ok (.aload_n 0, 1) := by decide +kernel
theorem dX8_append_35 : decode cX8_append 35 = .ok (.getfield 27, 3) := by decide +kernel
theorem dX8_append_38 : decode cX8_append 38 = .ok (.iload 4, 2) := by decide +kernel
theorem dX8_append_40 : decode cX8_append 40 = .ok (.iaload, 1) := by decide +kernel
theorem dX8_append_41 : decode cX8_append 41 = .ok (.invokestatic 9, 3) := by decide +kernel
theorem dX8_append_44 : decode cX8_append 44 = .ok (.iadd, 1) := by decide +kernel
theorem dX8_append_45 : decode cX8_append 45 = .ok (.iastore, 1) := by decide +kernel
theorem dX8_append_46 : decode cX8_append 46 = .ok (.aload_n 0, 1) := by decide +kernel
theorem dX8_append_47 : decode cX8_append 47 = .ok (.getfield 30, 3) := by decide +kernel
theorem dX8_append_50 : decode cX8_append 50 = .ok (.iload_n 1, 1) := by decide +kernel
theorem dX8_append_51 : decode cX8_append 51 = .ok (.iconst 1, 1) := by decide +kernel
theorem dX8_append_52 : decode cX8_append 52 = .ok (.aload_n 0, 1) := by decide +kernel
theorem dX8_append_53 : decode cX8_append 53 = .ok (.getfield 30, 3) := by decide +kernel
theorem dX8_append_56 : decode cX8_append 56 = .ok (.iload_n 3, 1) := by decide +kernel
theorem dX8_append_57 : decode cX8_append 57 = .ok (.iaload, 1) := by decide +kernel
theorem dX8_append_58 : decode cX8_append 58 = .ok (.iadd, 1) := by decide +kernel
theorem dX8_append_59 : decode cX8_append 59 = .ok (.iload_n 2, 1) := by decide +kernel
theorem dX8_append_60 : decode cX8_append 60 = .ok (.iconst 5, 1) := by decide +kernel
theorem dX8_append_61 : decode cX8_append 61 = .ok (.if_icmp .ne 13, 3) := by decide +kernel
theorem dX8_append_64 : decode cX8_append 64 = .ok (.aload_n 0, 1) := by decide +kernel
theorem dX8_append_65 : decode cX8_append 65 = .ok (.getfield 30, 3) := by decide +kernel
theorem dX8_append_68 : decode cX8_append 68 = .ok (.iload 4, 2) := by decide +kernel
theorem dX8_append_70 : decode cX8_append 70 = .ok (.iaload, 1) := by decide +kernel
theorem dX8_append_71 : decode cX8_append 71 = .ok (.goto 4, 3) := by decide +kernel
theorem dX8_append_74 : decode cX8_append 74 = .ok (.iconst 0, 1) := by decide +kernel
theorem dX8_append_75 : decode cX8_append 75 = .ok (.iadd, 1) := by decide +kernel
theorem dX8_append_76 : decode cX8_append 76 = .ok (.iastore, 1) := by decide +kernel
theorem dX8_append_77 : decode cX8_append 77 = .ok (.aload_n 0, 1) := by decide +kernel
theorem dX8_append_78 : decode cX8_append 78 = .ok (.iload_n 1, 1) := by decide +kernel
theorem dX8_append_79 : decode cX8_append 79 = .ok (.iconst 1, 1) := by decide +kernel
theorem dX8_append_80 : decode cX8_append 80 = .ok (.iadd, 1) := by decide +kernel
theorem dX8_append_81 : decode cX8_append 81 = .ok (.putfield 36, 3) := by decide +kernel
theorem dX8_append_84 : decode cX8_append 84 = .ok (.iload_n 1, 1) := by decide +kernel
theorem dX8_append_85 : decode cX8_append 85 = .ok (.ireturn, 1) := by decide +kernel
theorem dX8_depthOf_0 : decode cX8_depthOf 0 = .ok (.aload_n 0, 1) := by decide +kernel
theorem dX8_depthOf_1 : decode cX8_depthOf 1 = .ok (.iload_n 1, 1) := by decide +kernel
theorem dX8_depthOf_2 : decode cX8_depthOf 2 = .ok (.invokevirtual 43, 3) := by decide +kernel
theorem dX8_depthOf_5 : decode cX8_depthOf 5 = .ok (.ifCond .eq 12, 3) := by decide +kernel
theorem dX8_depthOf_8 : decode cX8_depthOf 8 = .ok (.aload_n 0, 1) := by decide +kernel
theorem dX8_depthOf_9 : decode cX8_depthOf 9 = .ok (.getfield 27, 3) := by decide +kernel
theorem dX8_depthOf_12 : decode cX8_depthOf 12 = .ok (.iload_n 1, 1) := by decide +kernel
theorem dX8_depthOf_13 : decode cX8_depthOf 13 = .ok (.iaload, 1) := by decide +kernel
theorem dX8_depthOf_14 : decode cX8_depthOf 14 = .ok (.goto 4, 3) := by decide +kernel
theorem dX8_depthOf_17 : decode cX8_depthOf 17 = .ok (.iconst 0, 1) := by decide +kernel
theorem dX8_depthOf_18 : decode cX8_depthOf 18 = .ok (.ireturn, 1) := by decide +kernel
theorem dX8_letterOf_0 : decode cX8_letterOf 0 = .ok (.aload_n 0, 1) := by decide +kernel
theorem dX8_letterOf_1 : decode cX8_letterOf 1 = .ok (.iload_n 1, 1) := by decide +kernel
theorem dX8_letterOf_2 : decode cX8_letterOf 2 = .ok (.invokevirtual 43, 3) := by decide +kernel
theorem dX8_letterOf_5 : decode cX8_letterOf 5 = .ok (.ifCond .eq 17, 3) := by decide +kernel
theorem dX8_letterOf_8 : decode cX8_letterOf 8 = .ok (.iload_n 2, 1) := by decide +kernel
theorem dX8_letterOf_9 : decode cX8_letterOf 9 = .ok (.ifCond .lt 13, 3) := by decide +kernel
theorem dX8_letterOf_12 : decode cX8_letterOf 12 = .ok (.iload_n 2, 1) := by decide +kernel
theorem dX8_letterOf_13 : decode cX8_letterOf 13 = .ok (.aload_n 0, 1) := by decide +kernel
theorem dX8_letterOf_14 : decode cX8_letterOf 14 = .ok (.getfield 30, 3) := by decide +kernel
theorem dX8_letterOf_17 : decode cX8_letterOf 17 = .ok (.iload_n 1, 1) := by decide +kernel
theorem dX8_letterOf_18 : decode cX8_letterOf 18 = .ok (.iaload, 1) := by decide +kernel
theorem dX8_letterOf_19 : decode cX8_letterOf 19 = .ok (.if_icmp .lt 6, 3) := by decide +kernel
theorem dX8_letterOf_22 : decode cX8_letterOf 22 = .ok (.bipush (-9), 2) := by decide +kernel
theorem dX8_letterOf_24 : decode cX8_letterOf 24 = .ok (.ireturn, 1) := by decide +kernel
theorem dX8_letterOf_25 : decode cX8_letterOf 25 = .ok (.iload_n 1, 1) := by decide +kernel
theorem dX8_letterOf_26 : decode cX8_letterOf 26 = .ok (.istore_n 3, 1) := by decide +kernel
theorem dX8_letterOf_27 : decode cX8_letterOf 27 = .ok (.iload_n 2, 1) := by decide +kernel
theorem dX8_letterOf_28 : decode cX8_letterOf 28 = .ok (.istore 4, 2) := by decide +kernel
theorem dX8_letterOf_30 : decode cX8_letterOf 30 = .ok (.iconst 0, 1) := by decide +kernel
theorem dX8_letterOf_31 : decode cX8_letterOf 31 = .ok (.istore 5, 2) := by decide +kernel
theorem dX8_letterOf_33 : decode cX8_letterOf 33 = .ok (.iload 5, 2) := by decide +kernel
theorem dX8_letterOf_35 : decode cX8_letterOf 35 = .ok (.aload_n 0, 1) := by decide +kernel
theorem dX8_letterOf_36 : decode cX8_letterOf 36 = .ok (.getfield 15, 3) := by decide +kernel
theorem dX8_letterOf_39 : decode cX8_letterOf 39 = .ok (.arraylength, 1) := by decide +kernel
theorem dX8_letterOf_40 : decode cX8_letterOf 40 = .ok (.if_icmp .ge 66, 3) := by decide +kernel
theorem dX8_letterOf_43 : decode cX8_letterOf 43 = .ok (.iload 4, 2) := by decide +kernel
theorem dX8_letterOf_45 : decode cX8_letterOf 45 = .ok (.ifCond .le 61, 3) := by decide +kernel
theorem dX8_letterOf_48 : decode cX8_letterOf 48 = .ok (.iinc 4 (-1), 3) := by decide +kernel
theorem dX8_letterOf_51 : decode cX8_letterOf 51 = .ok (.iload 4, 2) := by decide +kernel
theorem dX8_letterOf_53 : decode cX8_letterOf 53 = .ok (.aload_n 0, 1) := by decide +kernel
theorem dX8_letterOf_54 : decode cX8_letterOf 54 = .ok (.getfield 30, 3) := by decide +kernel
theorem dX8_letterOf_57 : decode cX8_letterOf 57 = .ok (.aload_n 0, 1) := by decide +kernel
theorem dX8_letterOf_58 : decode cX8_letterOf 58 = .ok (.getfield 21, 3) := by decide +kernel
theorem dX8_letterOf_61 : decode cX8_letterOf 61 = .ok (.iload_n 3, 1) := by decide +kernel
theorem dX8_letterOf_62 : decode cX8_letterOf 62 = .ok (.iaload, 1) := by decide +kernel
theorem dX8_letterOf_63 : decode cX8_letterOf 63 = .ok (.iaload, 1) := by decide +kernel
theorem dX8_letterOf_64 : decode cX8_letterOf 64 = .ok (.if_icmp .ge 13, 3) := by decide +kernel
theorem dX8_letterOf_67 : decode cX8_letterOf 67 = .ok (.aload_n 0, 1) := by decide +kernel
theorem dX8_letterOf_68 : decode cX8_letterOf 68 = .ok (.getfield 21, 3) := by decide +kernel
theorem dX8_letterOf_71 : decode cX8_letterOf 71 = .ok (.iload_n 3, 1) := by decide +kernel
theorem dX8_letterOf_72 : decode cX8_letterOf 72 = .ok (.iaload, 1) := by decide +kernel
theorem dX8_letterOf_73 : decode cX8_letterOf 73 = .ok (.istore_n 3, 1) := by decide +kernel
theorem dX8_letterOf_74 : decode cX8_letterOf 74 = .ok (.goto 26, 3) := by decide +kernel
theorem dX8_letterOf_77 : decode cX8_letterOf 77 = .ok (.iload 4, 2) := by decide +kernel
theorem dX8_letterOf_79 : decode cX8_letterOf 79 = .ok (.aload_n 0, 1) := by decide +kernel
theorem dX8_letterOf_80 : decode cX8_letterOf 80 = .ok (.getfield 30, 3) := by decide +kernel
theorem dX8_letterOf_83 : decode cX8_letterOf 83 = .ok (.aload_n 0, 1) := by decide +kernel
theorem dX8_letterOf_84 : decode cX8_letterOf 84 = .ok (.getfield 21, 3) := by decide +kernel
theorem dX8_letterOf_87 : decode cX8_letterOf 87 = .ok (.iload_n 3, 1) := by decide +kernel
theorem dX8_letterOf_88 : decode cX8_letterOf 88 = .ok (.iaload, 1) := by decide +kernel
theorem dX8_letterOf_89 : decode cX8_letterOf 89 = .ok (.iaload, 1) := by decide +kernel
theorem dX8_letterOf_90 : decode cX8_letterOf 90 = .ok (.isub, 1) := by decide +kernel
theorem dX8_letterOf_91 : decode cX8_letterOf 91 = .ok (.istore 4, 2) := by decide +kernel
theorem dX8_letterOf_93 : decode cX8_letterOf 93 = .ok (.aload_n 0, 1) := by decide +kernel
theorem dX8_letterOf_94 : decode cX8_letterOf 94 = .ok (.getfield 24, 3) := by decide +kernel
theorem dX8_letterOf_97 : decode cX8_letterOf 97 = .ok (.iload_n 3, 1) := by decide +kernel
theorem dX8_letterOf_98 : decode cX8_letterOf 98 = .ok (.iaload, 1) := by decide +kernel
theorem dX8_letterOf_99 : decode cX8_letterOf 99 = .ok (.istore_n 3, 1) := by decide +kernel
theorem dX8_letterOf_100 : decode cX8_letterOf 100 = .ok (.iinc 5 1, 3) := by decide +kernel
theorem dX8_letterOf_103 : decode cX8_letterOf 103 = .ok (.goto (-70), 3) := by decide +kernel
theorem dX8_letterOf_106 : decode cX8_letterOf 106 = .ok (.aload_n 0, 1) := by decide +kernel
theorem dX8_letterOf_107 : decode cX8_letterOf 107 = .ok (.getfield 15, 3) := by decide +kernel
theorem dX8_letterOf_110 : decode cX8_letterOf 110 = .ok (.iload_n 3, 1) := by decide +kernel
theorem dX8_letterOf_111 : decode cX8_letterOf 111 = .ok (.iaload, 1) := by decide +kernel
theorem dX8_letterOf_112 : decode cX8_letterOf 112 = .ok (.invokestatic 51, 3) := by decide +kernel
theorem dX8_letterOf_115 : decode cX8_letterOf 115 = .ok (.ireturn, 1) := by decide +kernel
theorem dX8_signOf_0 : decode cX8_signOf 0 = .ok (.iload_n 0, 1) := by decide +kernel
theorem dX8_signOf_1 : decode cX8_signOf 1 = .ok (.iconst 4, 1) := by decide +kernel
theorem dX8_signOf_2 : decode cX8_signOf 2 = .ok (.if_icmp .ne 8, 3) := by decide +kernel
theorem dX8_signOf_5 : decode cX8_signOf 5 = .ok (.bipush 102, 2) := by decide +kernel
theorem dX8_signOf_7 : decode cX8_signOf 7 = .ok (.goto 17, 3) := by decide +kernel
theorem dX8_signOf_10 : decode cX8_signOf 10 = .ok (.iload_n 0, 1) := by decide +kernel
theorem dX8_signOf_11 : decode cX8_signOf 11 = .ok (.iconst 5, 1) := by decide +kernel
theorem dX8_signOf_12 : decode cX8_signOf 12 = .ok (.if_icmp .ne 8, 3) := by decide +kernel
theorem dX8_signOf_15 : decode cX8_signOf 15 = .ok (.bipush 103, 2) := by decide +kernel
theorem dX8_signOf_17 : decode cX8_signOf 17 = .ok (.goto 7, 3) := by decide +kernel
theorem dX8_signOf_20 : decode cX8_signOf 20 = .ok (.bipush 97, 2) := by decide +kernel
theorem dX8_signOf_22 : decode cX8_signOf 22 = .ok (.iload_n 0, 1) := by decide +kernel
theorem dX8_signOf_23 : decode cX8_signOf 23 = .ok (.iadd, 1) := by decide +kernel
theorem dX8_signOf_24 : decode cX8_signOf 24 = .ok (.ireturn, 1) := by decide +kernel
theorem dX9_init_0 : decode cX9_init 0 = .ok (.aload_n 0, 1) := by decide +kernel
theorem dX9_init_1 : decode cX9_init 1 = .ok (.invokespecial 3, 3) := by decide +kernel
theorem dX9_init_4 : decode cX9_init 4 = .ok (.aload_n 0, 1) := by decide +kernel
theorem dX9_init_5 : decode cX9_init 5 = .ok (.new 9, 3) := by decide +kernel
theorem dX9_init_8 : decode cX9_init 8 = .ok (.dup, 1) := by decide +kernel
theorem dX9_init_9 : decode cX9_init 9 = .ok (.bipush 116, 2) := by decide +kernel
theorem dX9_init_11 : decode cX9_init 11 = .ok (.invokespecial 11, 3) := by decide +kernel
theorem dX9_init_14 : decode cX9_init 14 = .ok (.putfield 14, 3) := by decide +kernel
theorem dX9_init_17 : decode cX9_init 17 = .ok (.aload_n 0, 1) := by decide +kernel
theorem dX9_init_18 : decode cX9_init 18 = .ok (.new 20, 3) := by decide +kernel
theorem dX9_init_21 : decode cX9_init 21 = .ok (.dup, 1) := by decide +kernel
theorem dX9_init_22 : decode cX9_init 22 = .ok (.invokespecial 22, 3) := by decide +kernel
theorem dX9_init_25 : decode cX9_init 25 = .ok (.putfield 23, 3) := by decide +kernel
theorem dX9_init_28 : decode cX9_init 28 = .ok (.aload_n 0, 1) := by decide +kernel
theorem dX9_init_29 : decode cX9_init 29 = .ok (.bipush 6, 2) := by decide +kernel
theorem dX9_init_31 : decode cX9_init 31 = .ok (.newarray .int, 2) := by decide +kernel
theorem dX9_init_33 : decode cX9_init 33 = .ok (.putfield 27, 3) := by decide +kernel
theorem dX9_init_36 : decode cX9_init 36 = .ok (.aload_n 0, 1) := by decide +kernel
theorem dX9_init_37 : decode cX9_init 37 = .ok (.bipush 6, 2) := by decide +kernel
theorem dX9_init_39 : decode cX9_init 39 = .ok (.newarray .int, 2) := by decide +kernel
theorem dX9_init_41 : decode cX9_init 41 = .ok (.putfield 31, 3) := by decide +kernel
theorem dX9_init_44 : decode cX9_init 44 = .ok (.aload_n 0, 1) := by decide +kernel
theorem dX9_init_45 : decode cX9_init 45 = .ok (.bipush 6, 2) := by decide +kernel
theorem dX9_init_47 : decode cX9_init 47 = .ok (.newarray .boolean, 2) := by decide +kernel
theorem dX9_init_49 : decode cX9_init 49 = .ok (.putfield 34, 3) := by decide +kernel
theorem dX9_init_52 : decode cX9_init 52 = .ok (.return_, 1) := by decide +kernel
theorem dX9_forgetAll_0 : decode cX9_forgetAll 0 = .ok (.aload_n 0, 1) := by decide +kernel
theorem dX9_forgetAll_1 : decode cX9_forgetAll 1 = .ok (.getfield 14, 3) := by decide +kernel
theorem dX9_forgetAll_4 : decode cX9_forgetAll 4 = .ok (.invokevirtual 38, 3) := by decide +kernel
theorem dX9_forgetAll_7 : decode cX9_forgetAll 7 = .ok (.aload_n 0, 1) := by decide +kernel
theorem dX9_forgetAll_8 : decode cX9_forgetAll 8 = .ok (.getfield 23, 3) := by decide +kernel
theorem dX9_forgetAll_11 : decode cX9_forgetAll 11 = .ok (.invokevirtual 41, 3) := by decide +kernel
theorem dX9_forgetAll_14 : decode cX9_forgetAll 14 = .ok (.aload_n 0, 1) := by decide +kernel
theorem dX9_forgetAll_15 : decode cX9_forgetAll 15 = .ok (.iconst 0, 1) := by decide +kernel
theorem dX9_forgetAll_16 : decode cX9_forgetAll 16 = .ok (.putfield 42, 3) := by decide +kernel
theorem dX9_forgetAll_19 : decode cX9_forgetAll 19 = .ok (.return_, 1) := by decide +kernel
theorem dX9_has_0 : decode cX9_has 0 = .ok (.iload_n 1, 1) := by decide +kernel
theorem dX9_has_1 : decode cX9_has 1 = .ok (.ifCond .lt 21, 3) := by decide +kernel
theorem dX9_has_4 : decode cX9_has 4 = .ok (.iload_n 1, 1) := by decide +kernel
theorem dX9_has_5 : decode cX9_has 5 = .ok (.aload_n 0, 1) := by decide +kernel
theorem dX9_has_6 : decode cX9_has 6 = .ok (.getfield 42, 3) := by decide +kernel
theorem dX9_has_9 : decode cX9_has 9 = .ok (.if_icmp .ge 13, 3) := by decide +kernel
theorem dX9_has_12 : decode cX9_has 12 = .ok (.iload_n 1, 1) := by decide +kernel
theorem dX9_has_13 : decode cX9_has 13 = .ok (.bipush 6, 2) := by decide +kernel
theorem dX9_has_15 : decode cX9_has 15 = .ok (.if_icmp .ge 7, 3) := by decide +kernel
theorem dX9_has_18 : decode cX9_has 18 = .ok (.iconst 1, 1) := by decide +kernel
theorem dX9_has_19 : decode cX9_has 19 = .ok (.goto 4, 3) := by decide +kernel
theorem dX9_has_22 : decode cX9_has 22 = .ok (.iconst 0, 1) := by decide +kernel
theorem dX9_has_23 : decode cX9_has 23 = .ok (.ireturn, 1) := by decide +kernel
theorem dX9_addFact_0 : decode cX9_addFact 0 = .ok (.aload_n 0, 1) := by decide +kernel
theorem dX9_addFact_1 : decode cX9_addFact 1 = .ok (.getfield 42, 3) := by decide +kernel
theorem dX9_addFact_4 : decode cX9_addFact 4 = .ok (.ifCond .lt 52, 3) := by decide +kernel
theorem dX9_addFact_7 : decode cX9_addFact 7 = .ok (.aload_n 0, 1) := by decide +kernel
theorem dX9_addFact_8 : decode cX9_addFact 8 = .ok (.getfield 42, 3) := by decide +kernel
theorem dX9_addFact_11 : decode cX9_addFact 11 = .ok (.bipush 6, 2) := by decide +kernel
theorem dX9_addFact_13 : decode cX9_addFact 13 = .ok (.if_icmp .ge 43, 3) := by decide +kernel
theorem dX9_addFact_16 : decode cX9_addFact 16 = .ok (.aload_n 0, 1) := by decide +kernel
theorem dX9_addFact_17 : decode cX9_addFact 17 = .ok (.getfield 34, 3) := by decide +kernel
theorem dX9_addFact_20 : decode cX9_addFact 20 = .ok (.aload_n 0, 1) := by decide +kernel
theorem dX9_addFact_21 : decode cX9_addFact 21 = .ok (.getfield 42, 3) := by decide +kernel
theorem dX9_addFact_24 : decode cX9_addFact 24 = .ok (.iload_n 1, 1) := by decide +kernel
theorem dX9_addFact_25 : decode cX9_addFact 25 = .ok (.bastore, 1) := by decide +kernel
theorem dX9_addFact_26 : decode cX9_addFact 26 = .ok (.aload_n 0, 1) := by decide +kernel
theorem dX9_addFact_27 : decode cX9_addFact 27 = .ok (.getfield 27, 3) := by decide +kernel
theorem dX9_addFact_30 : decode cX9_addFact 30 = .ok (.aload_n 0, 1) := by decide +kernel
theorem dX9_addFact_31 : decode cX9_addFact 31 = .ok (.getfield 42, 3) := by decide +kernel
theorem dX9_addFact_34 : decode cX9_addFact 34 = .ok (.iload_n 2, 1) := by decide +kernel
theorem dX9_addFact_35 : decode cX9_addFact 35 = .ok (.iastore, 1) := by decide +kernel
theorem dX9_addFact_36 : decode cX9_addFact 36 = .ok (.aload_n 0, 1) := by decide +kernel
theorem dX9_addFact_37 : decode cX9_addFact 37 = .ok (.getfield 31, 3) := by decide +kernel
theorem dX9_addFact_40 : decode cX9_addFact 40 = .ok (.aload_n 0, 1) := by decide +kernel
theorem dX9_addFact_41 : decode cX9_addFact 41 = .ok (.getfield 42, 3) := by decide +kernel
theorem dX9_addFact_44 : decode cX9_addFact 44 = .ok (.iload_n 3, 1) := by decide +kernel
theorem dX9_addFact_45 : decode cX9_addFact 45 = .ok (.iastore, 1) := by decide +kernel
theorem dX9_addFact_46 : decode cX9_addFact 46 = .ok (.aload_n 0, 1) := by decide +kernel
theorem dX9_addFact_47 : decode cX9_addFact 47 = .ok (.dup, 1) := by decide +kernel
theorem dX9_addFact_48 : decode cX9_addFact 48 = .ok (.getfield 42, 3) := by decide +kernel
theorem dX9_addFact_51 : decode cX9_addFact 51 = .ok (.iconst 1, 1) := by decide +kernel
theorem dX9_addFact_52 : decode cX9_addFact 52 = .ok (.iadd, 1) := by decide +kernel
theorem dX9_addFact_53 : decode cX9_addFact 53 = .ok (.putfield 42, 3) := by decide +kernel
theorem dX9_addFact_56 : decode cX9_addFact 56 = .ok (.return_, 1) := by decide +kernel
theorem dX9_firstOf_0 : decode cX9_firstOf 0 = .ok (.aload_n 0, 1) := by decide +kernel
theorem dX9_firstOf_1 : decode cX9_firstOf 1 = .ok (.iload_n 1, 1) := by decide +kernel
theorem dX9_firstOf_2 : decode cX9_firstOf 2 = .ok (.invokevirtual 46, 3) := by decide +kernel
theorem dX9_firstOf_5 : decode cX9_firstOf 5 = .ok (.ifCond .eq 12, 3) := by decide +kernel
theorem dX9_firstOf_8 : decode cX9_firstOf 8 = .ok (.aload_n 0, 1) := by decide +kernel
theorem dX9_firstOf_9 : decode cX9_firstOf 9 = .ok (.getfield 27, 3) := by decide +kernel
theorem dX9_firstOf_12 : decode cX9_firstOf 12 = .ok (.iload_n 1, 1) := by decide +kernel
theorem dX9_firstOf_13 : decode cX9_firstOf 13 = .ok (.iaload, 1) := by decide +kernel
theorem dX9_firstOf_14 : decode cX9_firstOf 14 = .ok (.goto 4, 3) := by decide +kernel
theorem dX9_firstOf_17 : decode cX9_firstOf 17 = .ok (.iconst 0, 1) := by decide +kernel
theorem dX9_firstOf_18 : decode cX9_firstOf 18 = .ok (.ireturn, 1) := by decide +kernel
theorem dX9_secondOf_0 : decode cX9_secondOf 0 = .ok (.aload_n 0, 1) := by decide +kernel
theorem dX9_secondOf_1 : decode cX9_secondOf 1 = .ok (.iload_n 1, 1) := by decide +kernel
theorem dX9_secondOf_2 : decode cX9_secondOf 2 = .ok (.invokevirtual 46, 3) := by decide +kernel
theorem dX9_secondOf_5 : decode cX9_secondOf 5 = .ok (.ifCond .eq 12, 3) := by decide +kernel
theorem dX9_secondOf_8 : decode cX9_secondOf 8 = .ok (.aload_n 0, 1) := by decide +kernel
theorem dX9_secondOf_9 : decode cX9_secondOf 9 = .ok (.getfield 31, 3) := by decide +kernel
theorem dX9_secondOf_12 : decode cX9_secondOf 12 = .ok (.iload_n 1, 1) := by decide +kernel
theorem dX9_secondOf_13 : decode cX9_secondOf 13 = .ok (.iaload, 1) := by decide +kernel
theorem dX9_secondOf_14 : decode cX9_secondOf 14 = .ok (.goto 4, 3) := by decide +kernel
theorem dX9_secondOf_17 : decode cX9_secondOf 17 = .ok (.iconst 0, 1) := by decide +kernel
theorem dX9_secondOf_18 : decode cX9_secondOf 18 = .ok (.ireturn, 1) := by decide +kernel
theorem dX10_init_0 : decode cX10_init 0 = .ok (.aload_n 0, 1) := by decide +kernel
theorem dX10_init_1 : decode cX10_init 1 = .ok (.invokespecial 3, 3) := by decide +kernel
theorem dX10_init_4 : decode cX10_init 4 = .ok (.aload_n 0, 1) := by decide +kernel
theorem dX10_init_5 : decode cX10_init 5 = .ok (.new 9, 3) := by decide +kernel
theorem dX10_init_8 : decode cX10_init 8 = .ok (.dup, 1) := by decide +kernel
theorem dX10_init_9 : decode cX10_init 9 = .ok (.invokespecial 11, 3) := by decide +kernel
theorem dX10_init_12 : decode cX10_init 12 = .ok (.putfield 12, 3) := by decide +kernel
theorem dX10_init_15 : decode cX10_init 15 = .ok (.aload_n 0, 1) := by decide +kernel
theorem dX10_init_16 : decode cX10_init 16 = .ok (.new 16, 3) := by decide +kernel
theorem dX10_init_19 : decode cX10_init 19 = .ok (.dup, 1) := by decide +kernel
theorem dX10_init_20 : decode cX10_init 20 = .ok (.invokespecial 18, 3) := by decide +kernel
theorem dX10_init_23 : decode cX10_init 23 = .ok (.putfield 19, 3) := by decide +kernel
theorem dX10_init_26 : decode cX10_init 26 = .ok (.aload_n 0, 1) := by decide +kernel
theorem dX10_init_27 : decode cX10_init 27 = .ok (.new 23, 3) := by decide +kernel
theorem dX10_init_30 : decode cX10_init 30 = .ok (.dup, 1) := by decide +kernel
theorem dX10_init_31 : decode cX10_init 31 = .ok (.invokespecial 25, 3) := by decide +kernel
theorem dX10_init_34 : decode cX10_init 34 = .ok (.putfield 26, 3) := by decide +kernel
theorem dX10_init_37 : decode cX10_init 37 = .ok (.aload_n 0, 1) := by decide +kernel
theorem dX10_init_38 : decode cX10_init 38 = .ok (.iconst 2, 1) := by decide +kernel
theorem dX10_init_39 : decode cX10_init 39 = .ok (.anewarray 16, 3) := by decide +kernel
theorem dX10_init_42 : decode cX10_init 42 = .ok (.putfield 30, 3) := by decide +kernel
theorem dX10_init_45 : decode cX10_init 45 = .ok (.aload_n 0, 1) := by decide +kernel
theorem dX10_init_46 : decode cX10_init 46 = .ok (.iconst 2, 1) := by decide +kernel
theorem dX10_init_47 : decode cX10_init 47 = .ok (.newarray .boolean, 2) := by decide +kernel
theorem dX10_init_49 : decode cX10_init 49 = .ok (.putfield 34, 3) := by decide +kernel
theorem dX10_init_52 : decode cX10_init 52 = .ok (.aload_n 0, 1) := by decide +kernel
theorem dX10_init_53 : decode cX10_init 53 = .ok (.new 38, 3) := by decide +kernel
theorem dX10_init_56 : decode cX10_init 56 = .ok (.dup, 1) := by decide +kernel
theorem dX10_init_57 : decode cX10_init 57 = .ok (.invokespecial 40, 3) := by decide +kernel
theorem dX10_init_60 : decode cX10_init 60 = .ok (.putfield 41, 3) := by decide +kernel
theorem dX10_init_63 : decode cX10_init 63 = .ok (.aload_n 0, 1) := by decide +kernel
theorem dX10_init_64 : decode cX10_init 64 = .ok (.new 45, 3) := by decide +kernel
theorem dX10_init_67 : decode cX10_init 67 = .ok (.dup, 1) := by decide +kernel
theorem dX10_init_68 : decode cX10_init 68 = .ok (.invokespecial 47, 3) := by decide +kernel
theorem dX10_init_71 : decode cX10_init 71 = .ok (.putfield 48, 3) := by decide +kernel
theorem dX10_init_74 : decode cX10_init 74 = .ok (.aload_n 0, 1) := by decide +kernel
theorem dX10_init_75 : decode cX10_init 75 = .ok (.new 52, 3) := by decide +kernel
theorem dX10_init_78 : decode cX10_init 78 = .ok (.dup, 1) := by decide +kernel
theorem dX10_init_79 : decode cX10_init 79 = .ok (.invokespecial 54, 3) := by decide +kernel
theorem dX10_init_82 : decode cX10_init 82 = .ok (.putfield 55, 3) := by decide +kernel
theorem dX10_init_85 : decode cX10_init 85 = .ok (.aload_n 0, 1) := by decide +kernel
theorem dX10_init_86 : decode cX10_init 86 = .ok (.new 59, 3) := by decide +kernel
theorem dX10_init_89 : decode cX10_init 89 = .ok (.dup, 1) := by decide +kernel
theorem dX10_init_90 : decode cX10_init 90 = .ok (.invokespecial 61, 3) := by decide +kernel
theorem dX10_init_93 : decode cX10_init 93 = .ok (.putfield 62, 3) := by decide +kernel
theorem dX10_init_96 : decode cX10_init 96 = .ok (.aload_n 0, 1) := by decide +kernel
theorem dX10_init_97 : decode cX10_init 97 = .ok (.new 66, 3) := by decide +kernel
theorem dX10_init_100 : decode cX10_init 100 = .ok (.dup, 1) := by decide +kernel
theorem dX10_init_101 : decode cX10_init 101 = .ok (.invokespecial 68, 3) := by decide +kernel
theorem dX10_init_104 : decode cX10_init 104 = .ok (.putfield 69, 3) := by decide +kernel
theorem dX10_init_107 : decode cX10_init 107 = .ok (.aload_n 0, 1) := by decide +kernel
theorem dX10_init_108 : decode cX10_init 108 = .ok (.new 66, 3) := by decide +kernel
theorem dX10_init_111 : decode cX10_init 111 = .ok (.dup, 1) := by decide +kernel
theorem dX10_init_112 : decode cX10_init 112 = .ok (.invokespecial 68, 3) := by decide +kernel
theorem dX10_init_115 : decode cX10_init 115 = .ok (.putfield 73, 3) := by decide +kernel
theorem dX10_init_118 : decode cX10_init 118 = .ok (.iconst 0, 1) := by decide +kernel
theorem dX10_init_119 : decode cX10_init 119 = .ok (.istore_n 1, 1) := by decide +kernel
theorem dX10_init_120 : decode cX10_init 120 = .ok (.iload_n 1, 1) := by decide +kernel
theorem dX10_init_121 : decode cX10_init 121 = .ok (.iconst 2, 1) := by decide +kernel
theorem dX10_init_122 : decode cX10_init 122 = .ok (.if_icmp .ge 22, 3) := by decide +kernel
theorem dX10_init_125 : decode cX10_init 125 = .ok (.aload_n 0, 1) := by decide +kernel
theorem dX10_init_126 : decode cX10_init 126 = .ok (.getfield 30, 3) := by decide +kernel
theorem dX10_init_129 : decode cX10_init 129 = .ok (.iload_n 1, 1) := by decide +kernel
theorem dX10_init_130 : decode cX10_init 130 = .ok (.new 16, 3) := by decide +kernel
theorem dX10_init_133 : decode cX10_init 133 = .ok (.dup, 1) := by decide +kernel
theorem dX10_init_134 : decode cX10_init 134 = .ok (.invokespecial 18, 3) := by decide +kernel
theorem dX10_init_137 : decode cX10_init 137 = .ok (.aastore, 1) := by decide +kernel
theorem dX10_init_138 : decode cX10_init 138 = .ok (.iinc 1 1, 3) := by decide +kernel
theorem dX10_init_141 : decode cX10_init 141 = .ok (.goto (-21), 3) := by decide +kernel
theorem dX10_init_144 : decode cX10_init 144 = .ok (.aload_n 0, 1) := by decide +kernel
theorem dX10_init_145 : decode cX10_init 145 = .ok (.invokevirtual 76, 3) := by decide +kernel
theorem dX10_init_148 : decode cX10_init 148 = .ok (.return_, 1) := by decide +kernel
theorem dX10_startAsTold_0 : decode cX10_startAsTold 0 = .ok (.aload_n 0, 1) := by decide +kernel
theorem dX10_startAsTold_1 : decode cX10_startAsTold 1 = .ok (.getfield 19, 3) := by decide +kernel
theorem dX10_startAsTold_4 : decode cX10_startAsTold 4 = .ok (.aload_n 0, 1) := by decide +kernel
theorem dX10_startAsTold_5 : decode cX10_startAsTold 5 = .ok (.getfield 69, 3) := by decide +kernel
theorem dX10_startAsTold_8 : decode cX10_startAsTold 8 = .ok (.invokevirtual 79, 3) := by decide +kernel
theorem dX10_startAsTold_11 : decode cX10_startAsTold 11 = .ok (.aload_n 0, 1) := by decide +kernel
theorem dX10_startAsTold_12 : decode cX10_startAsTold 12 = .ok (.getfield 26, 3) := by decide +kernel
theorem dX10_startAsTold_15 : decode cX10_startAsTold 15 = .ok (.invokevirtual 83, 3) := by decide +kernel
theorem dX10_startAsTold_18 : decode cX10_startAsTold 18 = .ok (.aload_n 0, 1) := by decide +kernel
theorem dX10_startAsTold_19 : decode cX10_startAsTold 19 = .ok (.invokevirtual 86, 3) := by decide +kernel
theorem dX10_startAsTold_22 : decode cX10_startAsTold 22 = .ok (.iconst 0, 1) := by decide +kernel
theorem dX10_startAsTold_23 : decode cX10_startAsTold 23 = .ok (.istore_n 1, 1) := by decide +kernel
theorem dX10_startAsTold_24 : decode cX10_startAsTold 24 = .ok (.iload_n 1, 1) := by decide +kernel
theorem dX10_startAsTold_25 : decode cX10_startAsTold 25 = .ok (.iconst 2, 1) := by decide +kernel
theorem dX10_startAsTold_26 : decode cX10_startAsTold 26 = .ok (.if_icmp .ge 16, 3) := by decide +kernel
theorem dX10_startAsTold_29 : decode cX10_startAsTold 29 = .ok (.aload_n 0, 1) := by decide +kernel
theorem dX10_startAsTold_30 : decode cX10_startAsTold 30 = .ok (.getfield 34, 3) := by decide +kernel
theorem dX10_startAsTold_33 : decode cX10_startAsTold 33 = .ok (.iload_n 1, 1) := by decide +kernel
theorem dX10_startAsTold_34 : decode cX10_startAsTold 34 = .ok (.iconst 0, 1) := by decide +kernel
theorem dX10_startAsTold_35 : decode cX10_startAsTold 35 = .ok (.bastore, 1) := by decide +kernel
theorem dX10_startAsTold_36 : decode cX10_startAsTold 36 = .ok (.iinc 1 1, 3) := by decide +kernel
theorem dX10_startAsTold_39 : decode cX10_startAsTold 39 = .ok (.goto (-15), 3) := by decide +kernel
theorem dX10_startAsTold_42 : decode cX10_startAsTold 42 = .ok (.return_, 1) := by decide +kernel
theorem dX10_forgetSeen_0 : decode cX10_forgetSeen 0 = .ok (.aload_n 0, 1) := by decide +kernel
theorem dX10_forgetSeen_1 : decode cX10_forgetSeen 1 = .ok (.iconst 0, 1) := by decide +kernel
theorem dX10_forgetSeen_2 : decode cX10_forgetSeen 2 = .ok (.putfield 89, 3) := by decide +kernel
theorem dX10_forgetSeen_5 : decode cX10_forgetSeen 5 = .ok (.aload_n 0, 1) := by decide +kernel
theorem dX10_forgetSeen_6 : decode cX10_forgetSeen 6 = .ok (.sipush 255, 3) := by decide +kernel
theorem dX10_forgetSeen_9 : decode cX10_forgetSeen 9 = .ok (.putfield 93, 3) := by decide +kernel
theorem dX10_forgetSeen_12 : decode cX10_forgetSeen 12 = .ok (.return_, 1) := by decide +kernel
theorem dX10_type_0 : decode cX10_type 0 = .ok (.iload_n 1, 1) := by decide +kernel
theorem dX10_type_1 : decode cX10_type 1 = .ok (.ifCond .lt 10, 3) := by decide +kernel
theorem dX10_type_4 : decode cX10_type 4 = .ok (.iload_n 1, 1) := by decide +kernel
theorem dX10_type_5 : decode cX10_type 5 = .ok (.sipush 255, 3) := by decide +kernel
theorem dX10_type_8 : decode cX10_type 8 = .ok (.if_icmp .le 5, 3) := by decide +kernel
theorem dX10_type_11 : decode cX10_type 11 = .ok (.iconst (-1), 1) := by decide +kernel
theorem dX10_type_12 : decode cX10_type 12 = .ok (.ireturn, 1) := by decide +kernel
theorem dX10_type_13 : decode cX10_type 13 = .ok (.aload_n 0, 1) := by decide +kernel
theorem dX10_type_14 : decode cX10_type 14 = .ok (.getfield 12, 3) := by decide +kernel
theorem dX10_type_17 : decode cX10_type 17 = .ok (.invokevirtual 96, 3) := by decide +kernel
theorem dX10_type_20 : decode cX10_type 20 = .ok (.ifCond .eq 6, 3) := by decide +kernel
theorem dX10_type_23 : decode cX10_type 23 = .ok (.bipush (-3), 2) := by decide +kernel
theorem dX10_type_25 : decode cX10_type 25 = .ok (.ireturn, 1) := by decide +kernel
theorem dX10_type_26 : decode cX10_type 26 = .ok (.aload_n 0, 1) := by decide +kernel
theorem dX10_type_27 : decode cX10_type 27 = .ok (.getfield 12, 3) := by decide +kernel
theorem dX10_type_30 : decode cX10_type 30 = .ok (.iload_n 1, 1) := by decide +kernel
theorem dX10_type_31 : decode cX10_type 31 = .ok (.invokevirtual 100, 3) := by decide +kernel
theorem dX10_type_34 : decode cX10_type 34 = .ok (.aload_n 0, 1) := by decide +kernel
theorem dX10_type_35 : decode cX10_type 35 = .ok (.getfield 12, 3) := by decide +kernel
theorem dX10_type_38 : decode cX10_type 38 = .ok (.getfield 104, 3) := by decide +kernel
theorem dX10_type_41 : decode cX10_type 41 = .ok (.ireturn, 1) := by decide +kernel
theorem dX10_clear_0 : decode cX10_clear 0 = .ok (.aload_n 0, 1) := by decide +kernel
theorem dX10_clear_1 : decode cX10_clear 1 = .ok (.getfield 12, 3) := by decide +kernel
theorem dX10_clear_4 : decode cX10_clear 4 = .ok (.getfield 104, 3) := by decide +kernel
theorem dX10_clear_7 : decode cX10_clear 7 = .ok (.istore_n 1, 1) := by decide +kernel
theorem dX10_clear_8 : decode cX10_clear 8 = .ok (.aload_n 0, 1) := by decide +kernel
theorem dX10_clear_9 : decode cX10_clear 9 = .ok (.getfield 12, 3) := by decide +kernel
theorem dX10_clear_12 : decode cX10_clear 12 = .ok (.iconst 0, 1) := by decide +kernel
theorem dX10_clear_13 : decode cX10_clear 13 = .ok (.putfield 104, 3) := by decide +kernel
theorem dX10_clear_16 : decode cX10_clear 16 = .ok (.iload_n 1, 1) := by decide +kernel
theorem dX10_clear_17 : decode cX10_clear 17 = .ok (.ireturn, 1) := by decide +kernel
theorem dX10_machine_0 : decode cX10_machine 0 = .ok (.aload_n 0, 1) := by decide +kernel
theorem dX10_machine_1 : decode cX10_machine 1 = .ok (.getfield 12, 3) := by decide +kernel
theorem dX10_machine_4 : decode cX10_machine 4 = .ok (.aload_n 0, 1) := by decide +kernel
theorem dX10_machine_5 : decode cX10_machine 5 = .ok (.getfield 73, 3) := by decide +kernel
theorem dX10_machine_8 : decode cX10_machine 8 = .ok (.invokevirtual 107, 3) := by decide +kernel
theorem dX10_machine_11 : decode cX10_machine 11 = .ok (.istore_n 1, 1) := by decide +kernel
theorem dX10_machine_12 : decode cX10_machine 12 = .ok (.iload_n 1, 1) := by decide +kernel
theorem dX10_machine_13 : decode cX10_machine 13 = .ok (.ifCond .ge 5, 3) := by decide +kernel
theorem dX10_machine_16 : decode cX10_machine 16 = .ok (.iload_n 1, 1) := by decide +kernel
theorem dX10_machine_17 : decode cX10_machine 17 = .ok (.ireturn, 1) := by decide +kernel
theorem dX10_machine_18 : decode cX10_machine 18 = .ok (.aload_n 0, 1) := by decide +kernel
theorem dX10_machine_19 : decode cX10_machine 19 = .ok (.getfield 69, 3) := by decide +kernel
theorem dX10_machine_22 : decode cX10_machine 22 = .ok (.astore_n 2, 1) := by decide +kernel
theorem dX10_machine_23 : decode cX10_machine 23 = .ok (.aload_n 0, 1) := by decide +kernel
theorem dX10_machine_24 : decode cX10_machine 24 = .ok (.aload_n 0, 1) := by decide +kernel
theorem dX10_machine_25 : decode cX10_machine 25 = .ok (.getfield 73, 3) := by decide +kernel
theorem dX10_machine_28 : decode cX10_machine 28 = .ok (.putfield 69, 3) := by decide +kernel
theorem dX10_machine_31 : decode cX10_machine 31 = .ok (.aload_n 0, 1) := by decide +kernel
theorem dX10_machine_32 : decode cX10_machine 32 = .ok (.aload_n 2, 1) := by decide +kernel
theorem dX10_machine_33 : decode cX10_machine 33 = .ok (.putfield 73, 3) := by decide +kernel
theorem dX10_machine_36 : decode cX10_machine 36 = .ok (.aload_n 0, 1) := by decide +kernel
theorem dX10_machine_37 : decode cX10_machine 37 = .ok (.getfield 12, 3) := by decide +kernel
theorem dX10_machine_40 : decode cX10_machine 40 = .ok (.iconst 0, 1) := by decide +kernel
theorem dX10_machine_41 : decode cX10_machine 41 = .ok (.putfield 104, 3) := by decide +kernel
theorem dX10_machine_44 : decode cX10_machine 44 = .ok (.aload_n 0, 1) := by decide +kernel
theorem dX10_machine_45 : decode cX10_machine 45 = .ok (.invokevirtual 76, 3) := by decide +kernel
theorem dX10_machine_48 : decode cX10_machine 48 = .ok (.iload_n 1, 1) := by decide +kernel
theorem dX10_machine_49 : decode cX10_machine 49 = .ok (.ireturn, 1) := by decide +kernel
theorem dX10_instruction_0 : decode cX10_instruction 0 = .ok (.aload_n 0, 1) := by decide +kernel
theorem dX10_instruction_1 : decode cX10_instruction 1 = .ok (.getfield 19, 3) := by decide +kernel
theorem dX10_instruction_4 : decode cX10_instruction 4 = .ok (.getfield 111, 3) := by decide +kernel
theorem dX10_instruction_7 : decode cX10_instruction 7 = .ok (.iload_n 1, 1) := by decide +kernel
theorem dX10_instruction_8 : decode cX10_instruction 8 = .ok (.invokevirtual 115, 3) := by decide +kernel
theorem dX10_instruction_11 : decode cX10_instruction 11 = .ok (.ifCond .ne 5, 3) := by decide +kernel
theorem dX10_instruction_14 : decode cX10_instruction 14 = .ok (.iconst (-1), 1) := by decide +kernel
theorem dX10_instruction_15 : decode cX10_instruction 15 = .ok (.ireturn, 1) := by decide +kernel
theorem dX10_instruction_16 : decode cX10_instruction 16 = .ok (.aload_n 0, 1) := by decide +kernel
theorem dX10_instruction_17 : decode cX10_instruction 17 = .ok (.getfield 19, 3) := by decide +kernel
theorem dX10_instruction_20 : decode cX10_instruction 20 = .ok (.getfield 111, 3) := by decide +kernel
theorem dX10_instruction_23 : decode cX10_instruction 23 = .ok (.iload_n 1, 1) := by decide +kernel
theorem dX10_instruction_24 : decode cX10_instruction 24 = .ok (.invokevirtual 121, 3) := by decide +kernel
theorem dX10_instruction_27 : decode cX10_instruction 27 = .ok (.istore_n 3, 1) := by decide +kernel
theorem dX10_instruction_28 : decode cX10_instruction 28 = .ok (.iload_n 2, 1) := by decide +kernel
theorem dX10_instruction_29 : decode cX10_instruction 29 = .ok (.tableswitch 51 0 3 #[31, 36, 41, 46], 31) := by decide +kernel
theorem dX10_instruction_60 : decode cX10_instruction 60 = .ok (.iload_n 3, 1) := by decide +kernel
theorem dX10_instruction_61 : decode cX10_instruction 61 = .ok (.invokestatic 125, 3) := by decide +kernel
theorem dX10_instruction_64 : decode cX10_instruction 64 = .ok (.ireturn, 1) := by decide +kernel
theorem dX10_instruction_65 : decode cX10_instruction 65 = .ok (.iload_n 3, 1) := by decide +kernel
theorem dX10_instruction_66 : decode cX10_instruction 66 = .ok (.invokestatic 128, 3) := by decide +kernel
theorem dX10_instruction_69 : decode cX10_instruction 69 = .ok (.ireturn, 1) := by decide +kernel
theorem dX10_instruction_70 : decode cX10_instruction 70 = .ok (.iload_n 3, 1) := by decide +kernel
theorem dX10_instruction_71 : decode cX10_instruction 71 = .ok (.invokestatic 131, 3) := by decide +kernel
theorem dX10_instruction_74 : decode cX10_instruction 74 = .ok (.ireturn, 1) := by decide +kernel
theorem dX10_instruction_75 : decode cX10_instruction 75 = .ok (.iload_n 3, 1) := by decide +kernel
theorem dX10_instruction_76 : decode cX10_instruction 76 = .ok (.invokestatic 134, 3) := by decide +kernel
theorem dX10_instruction_79 : decode cX10_instruction 79 = .ok (.ireturn, 1) := by decide +kernel
theorem dX10_instruction_80 : decode cX10_instruction 80 = .ok (.iconst (-1), 1) := by decide +kernel
theorem dX10_instruction_81 : decode cX10_instruction 81 = .ok (.ireturn, 1) := by decide +kernel
theorem dX10_puts_0 : decode cX10_puts 0 = .ok (.iload_n 1, 1) := by decide +kernel
theorem dX10_puts_1 : decode cX10_puts 1 = .ok (.ifCond .lt 29, 3) := by decide +kernel
theorem dX10_puts_4 : decode cX10_puts 4 = .ok (.iload_n 1, 1) := by decide +kernel
theorem dX10_puts_5 : decode cX10_puts 5 = .ok (.aload_n 0, 1) := by decide +kernel
theorem dX10_puts_6 : decode cX10_puts 6 = .ok (.getfield 19, 3) := by decide +kernel
theorem dX10_puts_9 : decode cX10_puts 9 = .ok (.getfield 111, 3) := by decide +kernel
theorem dX10_puts_12 : decode cX10_puts 12 = .ok (.getfield 137, 3) := by decide +kernel
theorem dX10_puts_15 : decode cX10_puts 15 = .ok (.if_icmp .gt 15, 3) := by decide +kernel
theorem dX10_puts_18 : decode cX10_puts 18 = .ok (.iload_n 2, 1) := by decide +kernel
theorem dX10_puts_19 : decode cX10_puts 19 = .ok (.iload_n 3, 1) := by decide +kernel
theorem dX10_puts_20 : decode cX10_puts 20 = .ok (.iload 4, 2) := by decide +kernel
theorem dX10_puts_22 : decode cX10_puts 22 = .ok (.iload 5, 2) := by decide +kernel
theorem dX10_puts_24 : decode cX10_puts 24 = .ok (.invokestatic 138, 3) := by decide +kernel
theorem dX10_puts_27 : decode cX10_puts 27 = .ok (.ifCond .ne 5, 3) := by decide +kernel
theorem dX10_puts_30 : decode cX10_puts 30 = .ok (.iconst (-1), 1) := by decide +kernel
theorem dX10_puts_31 : decode cX10_puts 31 = .ok (.ireturn, 1) := by decide +kernel
theorem dX10_puts_32 : decode cX10_puts 32 = .ok (.iload_n 2, 1) := by decide +kernel
theorem dX10_puts_33 : decode cX10_puts 33 = .ok (.iload_n 3, 1) := by decide +kernel
theorem dX10_puts_34 : decode cX10_puts 34 = .ok (.iload 4, 2) := by decide +kernel
theorem dX10_puts_36 : decode cX10_puts 36 = .ok (.iload 5, 2) := by decide +kernel
theorem dX10_puts_38 : decode cX10_puts 38 = .ok (.invokestatic 142, 3) := by decide +kernel
theorem dX10_puts_41 : decode cX10_puts 41 = .ok (.istore 6, 2) := by decide +kernel
theorem dX10_puts_43 : decode cX10_puts 43 = .ok (.aload_n 0, 1) := by decide +kernel
theorem dX10_puts_44 : decode cX10_puts 44 = .ok (.getfield 19, 3) := by decide +kernel
theorem dX10_puts_47 : decode cX10_puts 47 = .ok (.getfield 111, 3) := by decide +kernel
theorem dX10_puts_50 : decode cX10_puts 50 = .ok (.iload_n 1, 1) := by decide +kernel
theorem dX10_puts_51 : decode cX10_puts 51 = .ok (.invokevirtual 121, 3) := by decide +kernel
theorem dX10_puts_54 : decode cX10_puts 54 = .ok (.iload 6, 2) := by decide +kernel
theorem dX10_puts_56 : decode cX10_puts 56 = .ok (.if_icmp .ne 6, 3) := by decide +kernel
theorem dX10_puts_59 : decode cX10_puts 59 = .ok (.bipush (-2), 2) := by decide +kernel
theorem dX10_puts_61 : decode cX10_puts 61 = .ok (.ireturn, 1) := by decide +kernel
theorem dX10_puts_62 : decode cX10_puts 62 = .ok (.iload_n 1, 1) := by decide +kernel
theorem dX10_puts_63 : decode cX10_puts 63 = .ok (.bipush 6, 2) := by decide +kernel
theorem dX10_puts_65 : decode cX10_puts 65 = .ok (.if_icmp .lt 6, 3) := by decide +kernel
theorem dX10_puts_68 : decode cX10_puts 68 = .ok (.bipush (-3), 2) := by decide +kernel
theorem dX10_puts_70 : decode cX10_puts 70 = .ok (.ireturn, 1) := by decide +kernel
theorem dX10_puts_71 : decode cX10_puts 71 = .ok (.aload_n 0, 1) := by decide +kernel
theorem dX10_puts_72 : decode cX10_puts 72 = .ok (.getfield 26, 3) := by decide +kernel
theorem dX10_puts_75 : decode cX10_puts 75 = .ok (.aload_n 0, 1) := by decide +kernel
theorem dX10_puts_76 : decode cX10_puts 76 = .ok (.getfield 19, 3) := by decide +kernel
theorem dX10_puts_79 : decode cX10_puts 79 = .ok (.invokevirtual 146, 3) := by decide +kernel
theorem dX10_puts_82 : decode cX10_puts 82 = .ok (.aload_n 0, 1) := by decide +kernel
theorem dX10_puts_83 : decode cX10_puts 83 = .ok (.getfield 19, 3) := by decide +kernel
theorem dX10_puts_86 : decode cX10_puts 86 = .ok (.getfield 111, 3) := by decide +kernel
theorem dX10_puts_89 : decode cX10_puts 89 = .ok (.iload_n 1, 1) := by decide +kernel
theorem dX10_puts_90 : decode cX10_puts 90 = .ok (.iload 6, 2) := by decide +kernel
theorem dX10_puts_92 : decode cX10_puts 92 = .ok (.invokevirtual 150, 3) := by decide +kernel
theorem dX10_puts_95 : decode cX10_puts 95 = .ok (.aload_n 0, 1) := by decide +kernel
theorem dX10_puts_96 : decode cX10_puts 96 = .ok (.getfield 19, 3) := by decide +kernel
theorem dX10_puts_99 : decode cX10_puts 99 = .ok (.getfield 111, 3) := by decide +kernel
theorem dX10_puts_102 : decode cX10_puts 102 = .ok (.getfield 137, 3) := by decide +kernel
theorem dX10_puts_105 : decode cX10_puts 105 = .ok (.ireturn, 1) := by decide +kernel
theorem dX10_isInstruction_0 : decode cX10_isInstruction 0 = .ok (.iload_n 0, 1) := by decide +kernel
theorem dX10_isInstruction_1 : decode cX10_isInstruction 1 = .ok (.ifCond .lt 29, 3) := by decide +kernel
theorem dX10_isInstruction_4 : decode cX10_isInstruction 4 = .ok (.iload_n 0, 1) := by decide +kernel
theorem dX10_isInstruction_5 : decode cX10_isInstruction 5 = .ok (.iconst 2, 1) := by decide +kernel
theorem dX10_isInstruction_6 : decode cX10_isInstruction 6 = .ok (.if_icmp .gt 24, 3) := by decide +kernel
theorem dX10_isInstruction_9 : decode cX10_isInstruction 9 = .ok (.iload_n 1, 1) := by decide +kernel
theorem dX10_isInstruction_10 : decode cX10_isInstruction 10 = .ok (.invokestatic 154, 3) := by decide +kernel
theorem dX10_isInstruction_13 : decode cX10_isInstruction 13 = .ok (.ifCond .eq 17, 3) := by decide +kernel
theorem dX10_isInstruction_16 : decode cX10_isInstruction 16 = .ok (.iload_n 2, 1) := by decide +kernel
theorem dX10_isInstruction_17 : decode cX10_isInstruction 17 = .ok (.invokestatic 154, 3) := by decide +kernel
theorem dX10_isInstruction_20 : decode cX10_isInstruction 20 = .ok (.ifCond .eq 10, 3) := by decide +kernel
theorem dX10_isInstruction_23 : decode cX10_isInstruction 23 = .ok (.iload_n 3, 1) := by decide +kernel
theorem dX10_isInstruction_24 : decode cX10_isInstruction 24 = .ok (.invokestatic 154, 3) := by decide +kernel
theorem dX10_isInstruction_27 : decode cX10_isInstruction 27 = .ok (.ifCond .ne 5, 3) := by decide +kernel
theorem dX10_isInstruction_30 : decode cX10_isInstruction 30 = .ok (.iconst 0, 1) := by decide +kernel
theorem dX10_isInstruction_31 : decode cX10_isInstruction 31 = .ok (.ireturn, 1) := by decide +kernel
theorem dX10_isInstruction_32 : decode cX10_isInstruction 32 = .ok (.iload_n 0, 1) := by decide +kernel
theorem dX10_isInstruction_33 : decode cX10_isInstruction 33 = .ok (.iconst 2, 1) := by decide +kernel
theorem dX10_isInstruction_34 : decode cX10_isInstruction 34 = .ok (.if_icmp .eq 20, 3) := by decide +kernel
theorem dX10_isInstruction_37 : decode cX10_isInstruction 37 = .ok (.iload_n 3, 1) := by decide +kernel
theorem dX10_isInstruction_38 : decode cX10_isInstruction 38 = .ok (.ifCond .ne 20, 3) := by decide +kernel
theorem dX10_isInstruction_41 : decode cX10_isInstruction 41 = .ok (.iload_n 0, 1) := by decide +kernel
theorem dX10_isInstruction_42 : decode cX10_isInstruction 42 = .ok (.iconst 1, 1) := by decide +kernel
theorem dX10_isInstruction_43 : decode cX10_isInstruction 43 = .ok (.if_icmp .eq 11, 3) := by decide +kernel
theorem dX10_isInstruction_46 : decode cX10_isInstruction 46 = .ok (.iload_n 1, 1) := by decide +kernel
theorem dX10_isInstruction_47 : decode cX10_isInstruction 47 = .ok (.ifCond .ne 11, 3) := by decide +kernel
theorem dX10_isInstruction_50 : decode cX10_isInstruction 50 = .ok (.iload_n 2, 1) := by decide +kernel
theorem dX10_isInstruction_51 : decode cX10_isInstruction 51 = .ok (.ifCond .ne 7, 3) := by decide +kernel
theorem dX10_isInstruction_54 : decode cX10_isInstruction 54 = .ok (.iconst 1, 1) := by decide +kernel
theorem dX10_isInstruction_55 : decode cX10_isInstruction 55 = .ok (.goto 4, 3) := by decide +kernel
theorem dX10_isInstruction_58 : decode cX10_isInstruction 58 = .ok (.iconst 0, 1) := by decide +kernel
theorem dX10_isInstruction_59 : decode cX10_isInstruction 59 = .ok (.ireturn, 1) := by decide +kernel
theorem dX10_isRegister_0 : decode cX10_isRegister 0 = .ok (.iload_n 0, 1) := by decide +kernel
theorem dX10_isRegister_1 : decode cX10_isRegister 1 = .ok (.ifCond .lt 12, 3) := by decide +kernel
theorem dX10_isRegister_4 : decode cX10_isRegister 4 = .ok (.iload_n 0, 1) := by decide +kernel
theorem dX10_isRegister_5 : decode cX10_isRegister 5 = .ok (.iconst 4, 1) := by decide +kernel
theorem dX10_isRegister_6 : decode cX10_isRegister 6 = .ok (.if_icmp .ge 7, 3) := by decide +kernel
theorem dX10_isRegister_9 : decode cX10_isRegister 9 = .ok (.iconst 1, 1) := by decide +kernel
theorem dX10_isRegister_10 : decode cX10_isRegister 10 = .ok (.goto 4, 3) := by decide +kernel
theorem dX10_isRegister_13 : decode cX10_isRegister 13 = .ok (.iconst 0, 1) := by decide +kernel
theorem dX10_isRegister_14 : decode cX10_isRegister 14 = .ok (.ireturn, 1) := by decide +kernel
theorem dX10_leaves_0 : decode cX10_leaves 0 = .ok (.aload_n 0, 1) := by decide +kernel
theorem dX10_leaves_1 : decode cX10_leaves 1 = .ok (.getfield 69, 3) := by decide +kernel
theorem dX10_leaves_4 : decode cX10_leaves 4 = .ok (.iload_n 1, 1) := by decide +kernel
theorem dX10_leaves_5 : decode cX10_leaves 5 = .ok (.invokevirtual 157, 3) := by decide +kernel
theorem dX10_leaves_8 : decode cX10_leaves 8 = .ok (.ifCond .ne 5, 3) := by decide +kernel
theorem dX10_leaves_11 : decode cX10_leaves 11 = .ok (.iconst (-1), 1) := by decide +kernel
theorem dX10_leaves_12 : decode cX10_leaves 12 = .ok (.ireturn, 1) := by decide +kernel
theorem dX10_leaves_13 : decode cX10_leaves 13 = .ok (.aload_n 0, 1) := by decide +kernel
theorem dX10_leaves_14 : decode cX10_leaves 14 = .ok (.getfield 26, 3) := by decide +kernel
theorem dX10_leaves_17 : decode cX10_leaves 17 = .ok (.aload_n 0, 1) := by decide +kernel
theorem dX10_leaves_18 : decode cX10_leaves 18 = .ok (.getfield 19, 3) := by decide +kernel
theorem dX10_leaves_21 : decode cX10_leaves 21 = .ok (.invokevirtual 146, 3) := by decide +kernel
theorem dX10_leaves_24 : decode cX10_leaves 24 = .ok (.aload_n 0, 1) := by decide +kernel
theorem dX10_leaves_25 : decode cX10_leaves 25 = .ok (.getfield 19, 3) := by decide +kernel
theorem dX10_leaves_28 : decode cX10_leaves 28 = .ok (.dup, 1) := by decide +kernel
theorem dX10_leaves_29 : decode cX10_leaves 29 = .ok (.getfield 158, 3) := by decide +kernel
theorem dX10_leaves_32 : decode cX10_leaves 32 = .ok (.iconst 1, 1) := by decide +kernel
theorem dX10_leaves_33 : decode cX10_leaves 33 = .ok (.iload_n 1, 1) := by decide +kernel
theorem dX10_leaves_34 : decode cX10_leaves 34 = .ok (.ishl, 1) := by decide +kernel
theorem dX10_leaves_35 : decode cX10_leaves 35 = .ok (.ixor, 1) := by decide +kernel
theorem dX10_leaves_36 : decode cX10_leaves 36 = .ok (.putfield 158, 3) := by decide +kernel
theorem dX10_leaves_39 : decode cX10_leaves 39 = .ok (.aload_n 0, 1) := by decide +kernel
theorem dX10_leaves_40 : decode cX10_leaves 40 = .ok (.getfield 19, 3) := by decide +kernel
theorem dX10_leaves_43 : decode cX10_leaves 43 = .ok (.getfield 158, 3) := by decide +kernel
theorem dX10_leaves_46 : decode cX10_leaves 46 = .ok (.iload_n 1, 1) := by decide +kernel
theorem dX10_leaves_47 : decode cX10_leaves 47 = .ok (.ishr, 1) := by decide +kernel
theorem dX10_leaves_48 : decode cX10_leaves 48 = .ok (.iconst 1, 1) := by decide +kernel
theorem dX10_leaves_49 : decode cX10_leaves 49 = .ok (.iand, 1) := by decide +kernel
theorem dX10_leaves_50 : decode cX10_leaves 50 = .ok (.ireturn, 1) := by decide +kernel
theorem dX10_tells_0 : decode cX10_tells 0 = .ok (.iload_n 1, 1) := by decide +kernel
theorem dX10_tells_1 : decode cX10_tells 1 = .ok (.ifCond .lt 27, 3) := by decide +kernel
theorem dX10_tells_4 : decode cX10_tells 4 = .ok (.iload_n 1, 1) := by decide +kernel
theorem dX10_tells_5 : decode cX10_tells 5 = .ok (.iconst 3, 1) := by decide +kernel
theorem dX10_tells_6 : decode cX10_tells 6 = .ok (.if_icmp .gt 22, 3) := by decide +kernel
theorem dX10_tells_9 : decode cX10_tells 9 = .ok (.iload_n 2, 1) := by decide +kernel
theorem dX10_tells_10 : decode cX10_tells 10 = .ok (.ifCond .lt 18, 3) := by decide +kernel
theorem dX10_tells_13 : decode cX10_tells 13 = .ok (.iload_n 2, 1) := by decide +kernel
theorem dX10_tells_14 : decode cX10_tells 14 = .ok (.bipush 7, 2) := by decide +kernel
theorem dX10_tells_16 : decode cX10_tells 16 = .ok (.if_icmp .gt 12, 3) := by decide +kernel
theorem dX10_tells_19 : decode cX10_tells 19 = .ok (.iload_n 3, 1) := by decide +kernel
theorem dX10_tells_20 : decode cX10_tells 20 = .ok (.ifCond .lt 8, 3) := by decide +kernel
theorem dX10_tells_23 : decode cX10_tells 23 = .ok (.iload_n 3, 1) := by decide +kernel
theorem dX10_tells_24 : decode cX10_tells 24 = .ok (.iconst 1, 1) := by decide +kernel
theorem dX10_tells_25 : decode cX10_tells 25 = .ok (.if_icmp .le 5, 3) := by decide +kernel
theorem dX10_tells_28 : decode cX10_tells 28 = .ok (.iconst (-1), 1) := by decide +kernel
theorem dX10_tells_29 : decode cX10_tells 29 = .ok (.ireturn, 1) := by decide +kernel
theorem dX10_tells_30 : decode cX10_tells 30 = .ok (.aload_n 0, 1) := by decide +kernel
theorem dX10_tells_31 : decode cX10_tells 31 = .ok (.getfield 19, 3) := by decide +kernel
theorem dX10_tells_34 : decode cX10_tells 34 = .ok (.getfield 161, 3) := by decide +kernel
theorem dX10_tells_37 : decode cX10_tells 37 = .ok (.iload_n 1, 1) := by decide +kernel
theorem dX10_tells_38 : decode cX10_tells 38 = .ok (.iload_n 2, 1) := by decide +kernel
theorem dX10_tells_39 : decode cX10_tells 39 = .ok (.iload_n 3, 1) := by decide +kernel
theorem dX10_tells_40 : decode cX10_tells 40 = .ok (.invokevirtual 164, 3) := by decide +kernel
theorem dX10_tells_43 : decode cX10_tells 43 = .ok (.ifCond .eq 6, 3) := by decide +kernel
theorem dX10_tells_46 : decode cX10_tells 46 = .ok (.bipush (-2), 2) := by decide +kernel
theorem dX10_tells_48 : decode cX10_tells 48 = .ok (.ireturn, 1) := by decide +kernel
theorem dX10_tells_49 : decode cX10_tells 49 = .ok (.aload_n 0, 1) := by decide +kernel
theorem dX10_tells_50 : decode cX10_tells 50 = .ok (.getfield 26, 3) := by decide +kernel
theorem dX10_tells_53 : decode cX10_tells 53 = .ok (.aload_n 0, 1) := by decide +kernel
theorem dX10_tells_54 : decode cX10_tells 54 = .ok (.getfield 19, 3) := by decide +kernel
theorem dX10_tells_57 : decode cX10_tells 57 = .ok (.invokevirtual 146, 3) := by decide +kernel
theorem dX10_tells_60 : decode cX10_tells 60 = .ok (.aload_n 0, 1) := by decide +kernel
theorem dX10_tells_61 : decode cX10_tells 61 = .ok (.getfield 19, 3) := by decide +kernel
theorem dX10_tells_64 : decode cX10_tells 64 = .ok (.getfield 161, 3) := by decide +kernel
theorem dX10_tells_67 : decode cX10_tells 67 = .ok (.iload_n 1, 1) := by decide +kernel
theorem dX10_tells_68 : decode cX10_tells 68 = .ok (.iload_n 2, 1) := by decide +kernel
theorem dX10_tells_69 : decode cX10_tells 69 = .ok (.iload_n 3, 1) := by decide +kernel
theorem dX10_tells_70 : decode cX10_tells 70 = .ok (.invokevirtual 168, 3) := by decide +kernel
theorem dX10_tells_73 : decode cX10_tells 73 = .ok (.iconst 1, 1) := by decide +kernel
theorem dX10_tells_74 : decode cX10_tells 74 = .ok (.ireturn, 1) := by decide +kernel
theorem dX10_undo_0 : decode cX10_undo 0 = .ok (.aload_n 0, 1) := by decide +kernel
theorem dX10_undo_1 : decode cX10_undo 1 = .ok (.getfield 26, 3) := by decide +kernel
theorem dX10_undo_4 : decode cX10_undo 4 = .ok (.getfield 171, 3) := by decide +kernel
theorem dX10_undo_7 : decode cX10_undo 7 = .ok (.ifCond .gt 6, 3) := by decide +kernel
theorem dX10_undo_10 : decode cX10_undo 10 = .ok (.bipush (-2), 2) := by decide +kernel
theorem dX10_undo_12 : decode cX10_undo 12 = .ok (.ireturn, 1) := by decide +kernel
theorem dX10_undo_13 : decode cX10_undo 13 = .ok (.aload_n 0, 1) := by decide +kernel
theorem dX10_undo_14 : decode cX10_undo 14 = .ok (.getfield 26, 3) := by decide +kernel
theorem dX10_undo_17 : decode cX10_undo 17 = .ok (.aload_n 0, 1) := by decide +kernel
theorem dX10_undo_18 : decode cX10_undo 18 = .ok (.getfield 19, 3) := by decide +kernel
theorem dX10_undo_21 : decode cX10_undo 21 = .ok (.invokevirtual 172, 3) := by decide +kernel
theorem dX10_undo_24 : decode cX10_undo 24 = .ok (.aload_n 0, 1) := by decide +kernel
theorem dX10_undo_25 : decode cX10_undo 25 = .ok (.getfield 26, 3) := by decide +kernel
theorem dX10_undo_28 : decode cX10_undo 28 = .ok (.getfield 171, 3) := by decide +kernel
theorem dX10_undo_31 : decode cX10_undo 31 = .ok (.ireturn, 1) := by decide +kernel
theorem dX10_fact_0 : decode cX10_fact 0 = .ok (.aload_n 0, 1) := by decide +kernel
theorem dX10_fact_1 : decode cX10_fact 1 = .ok (.getfield 69, 3) := by decide +kernel
theorem dX10_fact_4 : decode cX10_fact 4 = .ok (.iload_n 1, 1) := by decide +kernel
theorem dX10_fact_5 : decode cX10_fact 5 = .ok (.invokevirtual 157, 3) := by decide +kernel
theorem dX10_fact_8 : decode cX10_fact 8 = .ok (.ifCond .ne 5, 3) := by decide +kernel
theorem dX10_fact_11 : decode cX10_fact 11 = .ok (.iconst (-1), 1) := by decide +kernel
theorem dX10_fact_12 : decode cX10_fact 12 = .ok (.ireturn, 1) := by decide +kernel
theorem dX10_fact_13 : decode cX10_fact 13 = .ok (.aload_n 0, 1) := by decide +kernel
theorem dX10_fact_14 : decode cX10_fact 14 = .ok (.getfield 69, 3) := by decide +kernel
theorem dX10_fact_17 : decode cX10_fact 17 = .ok (.getfield 175, 3) := by decide +kernel
theorem dX10_fact_20 : decode cX10_fact 20 = .ok (.invokevirtual 179, 3) := by decide +kernel
theorem dX10_fact_23 : decode cX10_fact 23 = .ok (.aload_n 0, 1) := by decide +kernel
theorem dX10_fact_24 : decode cX10_fact 24 = .ok (.aload_n 0, 1) := by decide +kernel
theorem dX10_fact_25 : decode cX10_fact 25 = .ok (.getfield 69, 3) := by decide +kernel
theorem dX10_fact_28 : decode cX10_fact 28 = .ok (.iload_n 1, 1) := by decide +kernel
theorem dX10_fact_29 : decode cX10_fact 29 = .ok (.invokevirtual 184, 3) := by decide +kernel
theorem dX10_fact_32 : decode cX10_fact 32 = .ok (.aload_n 0, 1) := by decide +kernel
theorem dX10_fact_33 : decode cX10_fact 33 = .ok (.getfield 69, 3) := by decide +kernel
theorem dX10_fact_36 : decode cX10_fact 36 = .ok (.iload_n 1, 1) := by decide +kernel
theorem dX10_fact_37 : decode cX10_fact 37 = .ok (.invokevirtual 185, 3) := by decide +kernel
theorem dX10_fact_40 : decode cX10_fact 40 = .ok (.invokevirtual 186, 3) := by decide +kernel
theorem dX10_fact_43 : decode cX10_fact 43 = .ok (.ireturn, 1) := by decide +kernel
theorem dX10_judge_0 : decode cX10_judge 0 = .ok (.aload_n 0, 1) := by decide +kernel
theorem dX10_judge_1 : decode cX10_judge 1 = .ok (.getfield 48, 3) := by decide +kernel
theorem dX10_judge_4 : decode cX10_judge 4 = .ok (.aload_n 0, 1) := by decide +kernel
theorem dX10_judge_5 : decode cX10_judge 5 = .ok (.getfield 69, 3) := by decide +kernel
theorem dX10_judge_8 : decode cX10_judge 8 = .ok (.aload_n 0, 1) := by decide +kernel
theorem dX10_judge_9 : decode cX10_judge 9 = .ok (.getfield 19, 3) := by decide +kernel
theorem dX10_judge_12 : decode cX10_judge 12 = .ok (.getfield 158, 3) := by decide +kernel
theorem dX10_judge_15 : decode cX10_judge 15 = .ok (.invokevirtual 190, 3) := by decide +kernel
theorem dX10_judge_18 : decode cX10_judge 18 = .ok (.aload_n 0, 1) := by decide +kernel
theorem dX10_judge_19 : decode cX10_judge 19 = .ok (.getfield 48, 3) := by decide +kernel
theorem dX10_judge_22 : decode cX10_judge 22 = .ok (.iload_n 1, 1) := by decide +kernel
theorem dX10_judge_23 : decode cX10_judge 23 = .ok (.iload_n 2, 1) := by decide +kernel
theorem dX10_judge_24 : decode cX10_judge 24 = .ok (.invokevirtual 194, 3) := by decide +kernel
theorem dX10_judge_27 : decode cX10_judge 27 = .ok (.ifCond .ne 24, 3) := by decide +kernel
theorem dX10_judge_30 : decode cX10_judge 30 = .ok (.aload_n 0, 1) := by decide +kernel
theorem dX10_judge_31 : decode cX10_judge 31 = .ok (.getfield 48, 3) := by decide +kernel
theorem dX10_judge_34 : decode cX10_judge 34 = .ok (.aload_n 0, 1) := by decide +kernel
theorem dX10_judge_35 : decode cX10_judge 35 = .ok (.getfield 69, 3) := by decide +kernel
theorem dX10_judge_38 : decode cX10_judge 38 = .ok (.aload_n 0, 1) := by decide +kernel
theorem dX10_judge_39 : decode cX10_judge 39 = .ok (.getfield 19, 3) := by decide +kernel
theorem dX10_judge_42 : decode cX10_judge 42 = .ok (.getfield 158, 3) := by decide +kernel
theorem dX10_judge_45 : decode cX10_judge 45 = .ok (.invokevirtual 198, 3) := by decide +kernel
theorem dX10_judge_48 : decode cX10_judge 48 = .ok (.ifCond .eq 5, 3) := by decide +kernel
theorem dX10_judge_51 : decode cX10_judge 51 = .ok (.iconst 1, 1) := by decide +kernel
theorem dX10_judge_52 : decode cX10_judge 52 = .ok (.ireturn, 1) := by decide +kernel
theorem dX10_judge_53 : decode cX10_judge 53 = .ok (.aload_n 0, 1) := by decide +kernel
theorem dX10_judge_54 : decode cX10_judge 54 = .ok (.getfield 48, 3) := by decide +kernel
theorem dX10_judge_57 : decode cX10_judge 57 = .ok (.iload_n 1, 1) := by decide +kernel
theorem dX10_judge_58 : decode cX10_judge 58 = .ok (.iload_n 2, 1) := by decide +kernel
end
section
theorem dX10_judge_59 : decode cX10_judge 59 = .ok (.invokevirtual 202, 3) := by decide +kernel
theorem dX10_judge_62 : decode cX10_judge 62 = .ok (.aload_n 0, 1) := by decide +kernel
theorem dX10_judge_63 : decode cX10_judge 63 = .ok (.getfield 48, 3) := by decide +kernel
theorem dX10_judge_66 : decode cX10_judge 66 = .ok (.aload_n 0, 1) := by decide +kernel
theorem dX10_judge_67 : decode cX10_judge 67 = .ok (.getfield 69, 3) := by decide +kernel
theorem dX10_judge_70 : decode cX10_judge 70 = .ok (.aload_n 0, 1) := by decide +kernel
theorem dX10_judge_71 : decode cX10_judge 71 = .ok (.getfield 19, 3) := by decide +kernel
theorem dX10_judge_74 : decode cX10_judge 74 = .ok (.getfield 158, 3) := by decide +kernel
theorem dX10_judge_77 : decode cX10_judge 77 = .ok (.invokevirtual 198, 3) := by decide +kernel
theorem dX10_judge_80 : decode cX10_judge 80 = .ok (.ifCond .eq 7, 3) := by decide +kernel
theorem dX10_judge_83 : decode cX10_judge 83 = .ok (.iconst 2, 1) := by decide +kernel
theorem dX10_judge_84 : decode cX10_judge 84 = .ok (.goto 4, 3) := by decide +kernel
theorem dX10_judge_87 : decode cX10_judge 87 = .ok (.iconst 0, 1) := by decide +kernel
theorem dX10_judge_88 : decode cX10_judge 88 = .ok (.ireturn, 1) := by decide +kernel
theorem dX10_ruled_0 : decode cX10_ruled 0 = .ok (.aload_n 0, 1) := by decide +kernel
theorem dX10_ruled_1 : decode cX10_ruled 1 = .ok (.getfield 69, 3) := by decide +kernel
theorem dX10_ruled_4 : decode cX10_ruled 4 = .ok (.getfield 175, 3) := by decide +kernel
theorem dX10_ruled_7 : decode cX10_ruled 7 = .ok (.invokevirtual 179, 3) := by decide +kernel
theorem dX10_ruled_10 : decode cX10_ruled 10 = .ok (.aload_n 0, 1) := by decide +kernel
theorem dX10_ruled_11 : decode cX10_ruled 11 = .ok (.getfield 48, 3) := by decide +kernel
theorem dX10_ruled_14 : decode cX10_ruled 14 = .ok (.aload_n 0, 1) := by decide +kernel
theorem dX10_ruled_15 : decode cX10_ruled 15 = .ok (.getfield 69, 3) := by decide +kernel
theorem dX10_ruled_18 : decode cX10_ruled 18 = .ok (.aload_n 0, 1) := by decide +kernel
theorem dX10_ruled_19 : decode cX10_ruled 19 = .ok (.getfield 19, 3) := by decide +kernel
theorem dX10_ruled_22 : decode cX10_ruled 22 = .ok (.getfield 158, 3) := by decide +kernel
theorem dX10_ruled_25 : decode cX10_ruled 25 = .ok (.invokevirtual 190, 3) := by decide +kernel
theorem dX10_ruled_28 : decode cX10_ruled 28 = .ok (.aload_n 0, 1) := by decide +kernel
theorem dX10_ruled_29 : decode cX10_ruled 29 = .ok (.getfield 48, 3) := by decide +kernel
theorem dX10_ruled_32 : decode cX10_ruled 32 = .ok (.aload_n 0, 1) := by decide +kernel
theorem dX10_ruled_33 : decode cX10_ruled 33 = .ok (.getfield 69, 3) := by decide +kernel
theorem dX10_ruled_36 : decode cX10_ruled 36 = .ok (.aload_n 0, 1) := by decide +kernel
theorem dX10_ruled_37 : decode cX10_ruled 37 = .ok (.getfield 19, 3) := by decide +kernel
theorem dX10_ruled_40 : decode cX10_ruled 40 = .ok (.getfield 158, 3) := by decide +kernel
theorem dX10_ruled_43 : decode cX10_ruled 43 = .ok (.invokevirtual 198, 3) := by decide +kernel
theorem dX10_ruled_46 : decode cX10_ruled 46 = .ok (.ifCond .eq 7, 3) := by decide +kernel
theorem dX10_ruled_49 : decode cX10_ruled 49 = .ok (.iconst 1, 1) := by decide +kernel
theorem dX10_ruled_50 : decode cX10_ruled 50 = .ok (.goto 4, 3) := by decide +kernel
theorem dX10_ruled_53 : decode cX10_ruled 53 = .ok (.iconst 0, 1) := by decide +kernel
theorem dX10_ruled_54 : decode cX10_ruled 54 = .ok (.ireturn, 1) := by decide +kernel
theorem dX10_equal_0 : decode cX10_equal 0 = .ok (.iload_n 1, 1) := by decide +kernel
theorem dX10_equal_1 : decode cX10_equal 1 = .ok (.invokestatic 154, 3) := by decide +kernel
theorem dX10_equal_4 : decode cX10_equal 4 = .ok (.ifCond .eq 19, 3) := by decide +kernel
theorem dX10_equal_7 : decode cX10_equal 7 = .ok (.iload_n 2, 1) := by decide +kernel
theorem dX10_equal_8 : decode cX10_equal 8 = .ok (.invokestatic 154, 3) := by decide +kernel
theorem dX10_equal_11 : decode cX10_equal 11 = .ok (.ifCond .eq 12, 3) := by decide +kernel
theorem dX10_equal_14 : decode cX10_equal 14 = .ok (.iload_n 3, 1) := by decide +kernel
theorem dX10_equal_15 : decode cX10_equal 15 = .ok (.ifCond .lt 8, 3) := by decide +kernel
theorem dX10_equal_18 : decode cX10_equal 18 = .ok (.iload_n 3, 1) := by decide +kernel
theorem dX10_equal_19 : decode cX10_equal 19 = .ok (.iconst 2, 1) := by decide +kernel
theorem dX10_equal_20 : decode cX10_equal 20 = .ok (.if_icmp .le 5, 3) := by decide +kernel
theorem dX10_equal_23 : decode cX10_equal 23 = .ok (.iconst (-1), 1) := by decide +kernel
theorem dX10_equal_24 : decode cX10_equal 24 = .ok (.ireturn, 1) := by decide +kernel
theorem dX10_equal_25 : decode cX10_equal 25 = .ok (.aload_n 0, 1) := by decide +kernel
theorem dX10_equal_26 : decode cX10_equal 26 = .ok (.aload_n 0, 1) := by decide +kernel
theorem dX10_equal_27 : decode cX10_equal 27 = .ok (.getfield 19, 3) := by decide +kernel
theorem dX10_equal_30 : decode cX10_equal 30 = .ok (.getfield 161, 3) := by decide +kernel
theorem dX10_equal_33 : decode cX10_equal 33 = .ok (.invokevirtual 205, 3) := by decide +kernel
theorem dX10_equal_36 : decode cX10_equal 36 = .ok (.aload_n 0, 1) := by decide +kernel
theorem dX10_equal_37 : decode cX10_equal 37 = .ok (.aload_n 0, 1) := by decide +kernel
theorem dX10_equal_38 : decode cX10_equal 38 = .ok (.getfield 41, 3) := by decide +kernel
theorem dX10_equal_41 : decode cX10_equal 41 = .ok (.iload_n 1, 1) := by decide +kernel
theorem dX10_equal_42 : decode cX10_equal 42 = .ok (.iload_n 3, 1) := by decide +kernel
theorem dX10_equal_43 : decode cX10_equal 43 = .ok (.iconst 1, 1) := by decide +kernel
theorem dX10_equal_44 : decode cX10_equal 44 = .ok (.if_icmp .ne 7, 3) := by decide +kernel
theorem dX10_equal_47 : decode cX10_equal 47 = .ok (.iconst 1, 1) := by decide +kernel
theorem dX10_equal_48 : decode cX10_equal 48 = .ok (.goto 4, 3) := by decide +kernel
theorem dX10_equal_51 : decode cX10_equal 51 = .ok (.iconst 0, 1) := by decide +kernel
theorem dX10_equal_52 : decode cX10_equal 52 = .ok (.invokevirtual 209, 3) := by decide +kernel
theorem dX10_equal_55 : decode cX10_equal 55 = .ok (.aload_n 0, 1) := by decide +kernel
theorem dX10_equal_56 : decode cX10_equal 56 = .ok (.getfield 41, 3) := by decide +kernel
theorem dX10_equal_59 : decode cX10_equal 59 = .ok (.iload_n 2, 1) := by decide +kernel
theorem dX10_equal_60 : decode cX10_equal 60 = .ok (.iload_n 3, 1) := by decide +kernel
theorem dX10_equal_61 : decode cX10_equal 61 = .ok (.ifCond .eq 7, 3) := by decide +kernel
theorem dX10_equal_64 : decode cX10_equal 64 = .ok (.iconst 1, 1) := by decide +kernel
theorem dX10_equal_65 : decode cX10_equal 65 = .ok (.goto 4, 3) := by decide +kernel
theorem dX10_equal_68 : decode cX10_equal 68 = .ok (.iconst 0, 1) := by decide +kernel
theorem dX10_equal_69 : decode cX10_equal 69 = .ok (.invokevirtual 209, 3) := by decide +kernel
theorem dX10_equal_72 : decode cX10_equal 72 = .ok (.invokevirtual 186, 3) := by decide +kernel
theorem dX10_equal_75 : decode cX10_equal 75 = .ok (.ireturn, 1) := by decide +kernel
theorem dX10_goThrough_0 : decode cX10_goThrough 0 = .ok (.aload_n 0, 1) := by decide +kernel
theorem dX10_goThrough_1 : decode cX10_goThrough 1 = .ok (.getfield 69, 3) := by decide +kernel
theorem dX10_goThrough_4 : decode cX10_goThrough 4 = .ok (.getfield 175, 3) := by decide +kernel
theorem dX10_goThrough_7 : decode cX10_goThrough 7 = .ok (.invokevirtual 179, 3) := by decide +kernel
theorem dX10_goThrough_10 : decode cX10_goThrough 10 = .ok (.aload_n 0, 1) := by decide +kernel
theorem dX10_goThrough_11 : decode cX10_goThrough 11 = .ok (.getfield 41, 3) := by decide +kernel
theorem dX10_goThrough_14 : decode cX10_goThrough 14 = .ok (.aload_n 0, 1) := by decide +kernel
theorem dX10_goThrough_15 : decode cX10_goThrough 15 = .ok (.getfield 19, 3) := by decide +kernel
theorem dX10_goThrough_18 : decode cX10_goThrough 18 = .ok (.getfield 111, 3) := by decide +kernel
theorem dX10_goThrough_21 : decode cX10_goThrough 21 = .ok (.aload_n 0, 1) := by decide +kernel
theorem dX10_goThrough_22 : decode cX10_goThrough 22 = .ok (.getfield 69, 3) := by decide +kernel
theorem dX10_goThrough_25 : decode cX10_goThrough 25 = .ok (.getfield 175, 3) := by decide +kernel
theorem dX10_goThrough_28 : decode cX10_goThrough 28 = .ok (.invokevirtual 213, 3) := by decide +kernel
theorem dX10_goThrough_31 : decode cX10_goThrough 31 = .ok (.aload_n 0, 1) := by decide +kernel
theorem dX10_goThrough_32 : decode cX10_goThrough 32 = .ok (.getfield 41, 3) := by decide +kernel
theorem dX10_goThrough_35 : decode cX10_goThrough 35 = .ok (.aload_n 0, 1) := by decide +kernel
theorem dX10_goThrough_36 : decode cX10_goThrough 36 = .ok (.getfield 19, 3) := by decide +kernel
theorem dX10_goThrough_39 : decode cX10_goThrough 39 = .ok (.getfield 111, 3) := by decide +kernel
theorem dX10_goThrough_42 : decode cX10_goThrough 42 = .ok (.aload_n 1, 1) := by decide +kernel
theorem dX10_goThrough_43 : decode cX10_goThrough 43 = .ok (.aload_n 0, 1) := by decide +kernel
theorem dX10_goThrough_44 : decode cX10_goThrough 44 = .ok (.getfield 69, 3) := by decide +kernel
theorem dX10_goThrough_47 : decode cX10_goThrough 47 = .ok (.getfield 175, 3) := by decide +kernel
theorem dX10_goThrough_50 : decode cX10_goThrough 50 = .ok (.invokevirtual 217, 3) := by decide +kernel
theorem dX10_goThrough_53 : decode cX10_goThrough 53 = .ok (.return_, 1) := by decide +kernel
theorem dX10_deep_0 : decode cX10_deep 0 = .ok (.iload_n 1, 1) := by decide +kernel
theorem dX10_deep_1 : decode cX10_deep 1 = .ok (.invokestatic 154, 3) := by decide +kernel
theorem dX10_deep_4 : decode cX10_deep 4 = .ok (.ifCond .eq 12, 3) := by decide +kernel
theorem dX10_deep_7 : decode cX10_deep 7 = .ok (.iload_n 2, 1) := by decide +kernel
theorem dX10_deep_8 : decode cX10_deep 8 = .ok (.ifCond .lt 8, 3) := by decide +kernel
theorem dX10_deep_11 : decode cX10_deep 11 = .ok (.iload_n 2, 1) := by decide +kernel
theorem dX10_deep_12 : decode cX10_deep 12 = .ok (.iconst 1, 1) := by decide +kernel
theorem dX10_deep_13 : decode cX10_deep 13 = .ok (.if_icmp .le 5, 3) := by decide +kernel
theorem dX10_deep_16 : decode cX10_deep 16 = .ok (.iconst (-1), 1) := by decide +kernel
theorem dX10_deep_17 : decode cX10_deep 17 = .ok (.ireturn, 1) := by decide +kernel
theorem dX10_deep_18 : decode cX10_deep 18 = .ok (.aload_n 0, 1) := by decide +kernel
theorem dX10_deep_19 : decode cX10_deep 19 = .ok (.aload_n 0, 1) := by decide +kernel
theorem dX10_deep_20 : decode cX10_deep 20 = .ok (.getfield 19, 3) := by decide +kernel
theorem dX10_deep_23 : decode cX10_deep 23 = .ok (.getfield 161, 3) := by decide +kernel
theorem dX10_deep_26 : decode cX10_deep 26 = .ok (.invokevirtual 205, 3) := by decide +kernel
theorem dX10_deep_29 : decode cX10_deep 29 = .ok (.aload_n 0, 1) := by decide +kernel
theorem dX10_deep_30 : decode cX10_deep 30 = .ok (.getfield 69, 3) := by decide +kernel
theorem dX10_deep_33 : decode cX10_deep 33 = .ok (.getfield 175, 3) := by decide +kernel
theorem dX10_deep_36 : decode cX10_deep 36 = .ok (.aload_n 0, 1) := by decide +kernel
theorem dX10_deep_37 : decode cX10_deep 37 = .ok (.getfield 41, 3) := by decide +kernel
theorem dX10_deep_40 : decode cX10_deep 40 = .ok (.iload_n 1, 1) := by decide +kernel
theorem dX10_deep_41 : decode cX10_deep 41 = .ok (.iload_n 2, 1) := by decide +kernel
theorem dX10_deep_42 : decode cX10_deep 42 = .ok (.iconst 1, 1) := by decide +kernel
theorem dX10_deep_43 : decode cX10_deep 43 = .ok (.if_icmp .ne 7, 3) := by decide +kernel
theorem dX10_deep_46 : decode cX10_deep 46 = .ok (.iconst 1, 1) := by decide +kernel
theorem dX10_deep_47 : decode cX10_deep 47 = .ok (.goto 4, 3) := by decide +kernel
theorem dX10_deep_50 : decode cX10_deep 50 = .ok (.iconst 0, 1) := by decide +kernel
theorem dX10_deep_51 : decode cX10_deep 51 = .ok (.invokevirtual 209, 3) := by decide +kernel
theorem dX10_deep_54 : decode cX10_deep 54 = .ok (.invokevirtual 221, 3) := by decide +kernel
theorem dX10_deep_57 : decode cX10_deep 57 = .ok (.ireturn, 1) := by decide +kernel
theorem dX10_term_0 : decode cX10_term 0 = .ok (.iload_n 1, 1) := by decide +kernel
theorem dX10_term_1 : decode cX10_term 1 = .ok (.invokestatic 154, 3) := by decide +kernel
theorem dX10_term_4 : decode cX10_term 4 = .ok (.ifCond .eq 16, 3) := by decide +kernel
theorem dX10_term_7 : decode cX10_term 7 = .ok (.iload_n 2, 1) := by decide +kernel
theorem dX10_term_8 : decode cX10_term 8 = .ok (.ifCond .lt 12, 3) := by decide +kernel
theorem dX10_term_11 : decode cX10_term 11 = .ok (.iload_n 2, 1) := by decide +kernel
theorem dX10_term_12 : decode cX10_term 12 = .ok (.iconst 1, 1) := by decide +kernel
theorem dX10_term_13 : decode cX10_term 13 = .ok (.if_icmp .gt 7, 3) := by decide +kernel
theorem dX10_term_16 : decode cX10_term 16 = .ok (.iload_n 3, 1) := by decide +kernel
theorem dX10_term_17 : decode cX10_term 17 = .ok (.ifCond .ge 5, 3) := by decide +kernel
theorem dX10_term_20 : decode cX10_term 20 = .ok (.iconst (-1), 1) := by decide +kernel
theorem dX10_term_21 : decode cX10_term 21 = .ok (.ireturn, 1) := by decide +kernel
theorem dX10_term_22 : decode cX10_term 22 = .ok (.aload_n 0, 1) := by decide +kernel
theorem dX10_term_23 : decode cX10_term 23 = .ok (.aload_n 0, 1) := by decide +kernel
theorem dX10_term_24 : decode cX10_term 24 = .ok (.getfield 19, 3) := by decide +kernel
theorem dX10_term_27 : decode cX10_term 27 = .ok (.getfield 161, 3) := by decide +kernel
theorem dX10_term_30 : decode cX10_term 30 = .ok (.invokevirtual 205, 3) := by decide +kernel
theorem dX10_term_33 : decode cX10_term 33 = .ok (.aload_n 0, 1) := by decide +kernel
theorem dX10_term_34 : decode cX10_term 34 = .ok (.getfield 69, 3) := by decide +kernel
theorem dX10_term_37 : decode cX10_term 37 = .ok (.getfield 175, 3) := by decide +kernel
theorem dX10_term_40 : decode cX10_term 40 = .ok (.aload_n 0, 1) := by decide +kernel
theorem dX10_term_41 : decode cX10_term 41 = .ok (.getfield 41, 3) := by decide +kernel
theorem dX10_term_44 : decode cX10_term 44 = .ok (.iload_n 1, 1) := by decide +kernel
theorem dX10_term_45 : decode cX10_term 45 = .ok (.iload_n 2, 1) := by decide +kernel
theorem dX10_term_46 : decode cX10_term 46 = .ok (.iconst 1, 1) := by decide +kernel
theorem dX10_term_47 : decode cX10_term 47 = .ok (.if_icmp .ne 7, 3) := by decide +kernel
theorem dX10_term_50 : decode cX10_term 50 = .ok (.iconst 1, 1) := by decide +kernel
theorem dX10_term_51 : decode cX10_term 51 = .ok (.goto 4, 3) := by decide +kernel
theorem dX10_term_54 : decode cX10_term 54 = .ok (.iconst 0, 1) := by decide +kernel
theorem dX10_term_55 : decode cX10_term 55 = .ok (.invokevirtual 209, 3) := by decide +kernel
theorem dX10_term_58 : decode cX10_term 58 = .ok (.iload_n 3, 1) := by decide +kernel
theorem dX10_term_59 : decode cX10_term 59 = .ok (.invokevirtual 224, 3) := by decide +kernel
theorem dX10_term_62 : decode cX10_term 62 = .ok (.ireturn, 1) := by decide +kernel
theorem dX10_step_0 : decode cX10_step 0 = .ok (.aload_n 0, 1) := by decide +kernel
theorem dX10_step_1 : decode cX10_step 1 = .ok (.getfield 19, 3) := by decide +kernel
theorem dX10_step_4 : decode cX10_step 4 = .ok (.getfield 111, 3) := by decide +kernel
theorem dX10_step_7 : decode cX10_step 7 = .ok (.iload_n 1, 1) := by decide +kernel
theorem dX10_step_8 : decode cX10_step 8 = .ok (.invokevirtual 115, 3) := by decide +kernel
theorem dX10_step_11 : decode cX10_step 11 = .ok (.ifCond .ne 5, 3) := by decide +kernel
theorem dX10_step_14 : decode cX10_step 14 = .ok (.iconst (-1), 1) := by decide +kernel
theorem dX10_step_15 : decode cX10_step 15 = .ok (.ireturn, 1) := by decide +kernel
theorem dX10_step_16 : decode cX10_step 16 = .ok (.aload_n 0, 1) := by decide +kernel
theorem dX10_step_17 : decode cX10_step 17 = .ok (.aload_n 0, 1) := by decide +kernel
theorem dX10_step_18 : decode cX10_step 18 = .ok (.getfield 19, 3) := by decide +kernel
theorem dX10_step_21 : decode cX10_step 21 = .ok (.getfield 161, 3) := by decide +kernel
theorem dX10_step_24 : decode cX10_step 24 = .ok (.invokevirtual 205, 3) := by decide +kernel
theorem dX10_step_27 : decode cX10_step 27 = .ok (.aload_n 0, 1) := by decide +kernel
theorem dX10_step_28 : decode cX10_step 28 = .ok (.getfield 41, 3) := by decide +kernel
theorem dX10_step_31 : decode cX10_step 31 = .ok (.iload_n 1, 1) := by decide +kernel
theorem dX10_step_32 : decode cX10_step 32 = .ok (.invokevirtual 227, 3) := by decide +kernel
theorem dX10_step_35 : decode cX10_step 35 = .ok (.ireturn, 1) := by decide +kernel
theorem dX10_length_0 : decode cX10_length 0 = .ok (.aload_n 0, 1) := by decide +kernel
theorem dX10_length_1 : decode cX10_length 1 = .ok (.getfield 19, 3) := by decide +kernel
theorem dX10_length_4 : decode cX10_length 4 = .ok (.getfield 111, 3) := by decide +kernel
theorem dX10_length_7 : decode cX10_length 7 = .ok (.getfield 137, 3) := by decide +kernel
theorem dX10_length_10 : decode cX10_length 10 = .ok (.ifCond .ne 5, 3) := by decide +kernel
theorem dX10_length_13 : decode cX10_length 13 = .ok (.iconst 0, 1) := by decide +kernel
theorem dX10_length_14 : decode cX10_length 14 = .ok (.ireturn, 1) := by decide +kernel
theorem dX10_length_15 : decode cX10_length 15 = .ok (.aload_n 0, 1) := by decide +kernel
theorem dX10_length_16 : decode cX10_length 16 = .ok (.aload_n 0, 1) := by decide +kernel
theorem dX10_length_17 : decode cX10_length 17 = .ok (.getfield 19, 3) := by decide +kernel
theorem dX10_length_20 : decode cX10_length 20 = .ok (.getfield 161, 3) := by decide +kernel
theorem dX10_length_23 : decode cX10_length 23 = .ok (.invokevirtual 205, 3) := by decide +kernel
theorem dX10_length_26 : decode cX10_length 26 = .ok (.aload_n 0, 1) := by decide +kernel
theorem dX10_length_27 : decode cX10_length 27 = .ok (.getfield 41, 3) := by decide +kernel
theorem dX10_length_30 : decode cX10_length 30 = .ok (.aload_n 0, 1) := by decide +kernel
theorem dX10_length_31 : decode cX10_length 31 = .ok (.getfield 19, 3) := by decide +kernel
theorem dX10_length_34 : decode cX10_length 34 = .ok (.getfield 111, 3) := by decide +kernel
theorem dX10_length_37 : decode cX10_length 37 = .ok (.getfield 137, 3) := by decide +kernel
theorem dX10_length_40 : decode cX10_length 40 = .ok (.iconst 1, 1) := by decide +kernel
theorem dX10_length_41 : decode cX10_length 41 = .ok (.isub, 1) := by decide +kernel
theorem dX10_length_42 : decode cX10_length 42 = .ok (.invokevirtual 227, 3) := by decide +kernel
theorem dX10_length_45 : decode cX10_length 45 = .ok (.iconst 1, 1) := by decide +kernel
theorem dX10_length_46 : decode cX10_length 46 = .ok (.iadd, 1) := by decide +kernel
theorem dX10_length_47 : decode cX10_length 47 = .ok (.aload_n 0, 1) := by decide +kernel
theorem dX10_length_48 : decode cX10_length 48 = .ok (.getfield 19, 3) := by decide +kernel
theorem dX10_length_51 : decode cX10_length 51 = .ok (.getfield 161, 3) := by decide +kernel
theorem dX10_length_54 : decode cX10_length 54 = .ok (.getfield 230, 3) := by decide +kernel
theorem dX10_length_57 : decode cX10_length 57 = .ok (.iadd, 1) := by decide +kernel
theorem dX10_length_58 : decode cX10_length 58 = .ok (.ireturn, 1) := by decide +kernel
theorem dX10_wrong_0 : decode cX10_wrong 0 = .ok (.aload_n 0, 1) := by decide +kernel
theorem dX10_wrong_1 : decode cX10_wrong 1 = .ok (.aload_n 0, 1) := by decide +kernel
theorem dX10_wrong_2 : decode cX10_wrong 2 = .ok (.getfield 19, 3) := by decide +kernel
theorem dX10_wrong_5 : decode cX10_wrong 5 = .ok (.getfield 161, 3) := by decide +kernel
theorem dX10_wrong_8 : decode cX10_wrong 8 = .ok (.invokevirtual 205, 3) := by decide +kernel
theorem dX10_wrong_11 : decode cX10_wrong 11 = .ok (.aload_n 0, 1) := by decide +kernel
theorem dX10_wrong_12 : decode cX10_wrong 12 = .ok (.aload_n 0, 1) := by decide +kernel
theorem dX10_wrong_13 : decode cX10_wrong 13 = .ok (.getfield 19, 3) := by decide +kernel
theorem dX10_wrong_16 : decode cX10_wrong 16 = .ok (.getfield 158, 3) := by decide +kernel
theorem dX10_wrong_19 : decode cX10_wrong 19 = .ok (.invokevirtual 233, 3) := by decide +kernel
theorem dX10_wrong_22 : decode cX10_wrong 22 = .ok (.ireturn, 1) := by decide +kernel
theorem dX10_wrongBy_0 : decode cX10_wrongBy 0 = .ok (.aload_n 0, 1) := by decide +kernel
theorem dX10_wrongBy_1 : decode cX10_wrongBy 1 = .ok (.getfield 41, 3) := by decide +kernel
theorem dX10_wrongBy_4 : decode cX10_wrongBy 4 = .ok (.invokevirtual 236, 3) := by decide +kernel
theorem dX10_wrongBy_7 : decode cX10_wrongBy 7 = .ok (.istore_n 2, 1) := by decide +kernel
theorem dX10_wrongBy_8 : decode cX10_wrongBy 8 = .ok (.iload_n 2, 1) := by decide +kernel
theorem dX10_wrongBy_9 : decode cX10_wrongBy 9 = .ok (.ifCond .ne 5, 3) := by decide +kernel
theorem dX10_wrongBy_12 : decode cX10_wrongBy 12 = .ok (.iconst 0, 1) := by decide +kernel
theorem dX10_wrongBy_13 : decode cX10_wrongBy 13 = .ok (.ireturn, 1) := by decide +kernel
theorem dX10_wrongBy_14 : decode cX10_wrongBy 14 = .ok (.aload_n 0, 1) := by decide +kernel
theorem dX10_wrongBy_15 : decode cX10_wrongBy 15 = .ok (.getfield 48, 3) := by decide +kernel
theorem dX10_wrongBy_18 : decode cX10_wrongBy 18 = .ok (.aload_n 0, 1) := by decide +kernel
theorem dX10_wrongBy_19 : decode cX10_wrongBy 19 = .ok (.getfield 69, 3) := by decide +kernel
theorem dX10_wrongBy_22 : decode cX10_wrongBy 22 = .ok (.iload_n 1, 1) := by decide +kernel
theorem dX10_wrongBy_23 : decode cX10_wrongBy 23 = .ok (.invokevirtual 190, 3) := by decide +kernel
theorem dX10_wrongBy_26 : decode cX10_wrongBy 26 = .ok (.aload_n 0, 1) := by decide +kernel
theorem dX10_wrongBy_27 : decode cX10_wrongBy 27 = .ok (.getfield 48, 3) := by decide +kernel
theorem dX10_wrongBy_30 : decode cX10_wrongBy 30 = .ok (.aload_n 0, 1) := by decide +kernel
theorem dX10_wrongBy_31 : decode cX10_wrongBy 31 = .ok (.getfield 69, 3) := by decide +kernel
theorem dX10_wrongBy_34 : decode cX10_wrongBy 34 = .ok (.iload_n 1, 1) := by decide +kernel
theorem dX10_wrongBy_35 : decode cX10_wrongBy 35 = .ok (.invokevirtual 198, 3) := by decide +kernel
theorem dX10_wrongBy_38 : decode cX10_wrongBy 38 = .ok (.ifCond .eq 5, 3) := by decide +kernel
theorem dX10_wrongBy_41 : decode cX10_wrongBy 41 = .ok (.iconst 0, 1) := by decide +kernel
theorem dX10_wrongBy_42 : decode cX10_wrongBy 42 = .ok (.ireturn, 1) := by decide +kernel
theorem dX10_wrongBy_43 : decode cX10_wrongBy 43 = .ok (.iconst 0, 1) := by decide +kernel
theorem dX10_wrongBy_44 : decode cX10_wrongBy 44 = .ok (.istore_n 3, 1) := by decide +kernel
theorem dX10_wrongBy_45 : decode cX10_wrongBy 45 = .ok (.iconst 0, 1) := by decide +kernel
theorem dX10_wrongBy_46 : decode cX10_wrongBy 46 = .ok (.istore 4, 2) := by decide +kernel
theorem dX10_wrongBy_48 : decode cX10_wrongBy 48 = .ok (.iload 4, 2) := by decide +kernel
theorem dX10_wrongBy_50 : decode cX10_wrongBy 50 = .ok (.iconst 4, 1) := by decide +kernel
theorem dX10_wrongBy_51 : decode cX10_wrongBy 51 = .ok (.if_icmp .ge 56, 3) := by decide +kernel
theorem dX10_wrongBy_54 : decode cX10_wrongBy 54 = .ok (.iload_n 2, 1) := by decide +kernel
theorem dX10_wrongBy_55 : decode cX10_wrongBy 55 = .ok (.iload 4, 2) := by decide +kernel
theorem dX10_wrongBy_57 : decode cX10_wrongBy 57 = .ok (.ishr, 1) := by decide +kernel
theorem dX10_wrongBy_58 : decode cX10_wrongBy 58 = .ok (.iconst 1, 1) := by decide +kernel
theorem dX10_wrongBy_59 : decode cX10_wrongBy 59 = .ok (.iand, 1) := by decide +kernel
theorem dX10_wrongBy_60 : decode cX10_wrongBy 60 = .ok (.iconst 1, 1) := by decide +kernel
theorem dX10_wrongBy_61 : decode cX10_wrongBy 61 = .ok (.if_icmp .ne 40, 3) := by decide +kernel
theorem dX10_wrongBy_64 : decode cX10_wrongBy 64 = .ok (.aload_n 0, 1) := by decide +kernel
theorem dX10_wrongBy_65 : decode cX10_wrongBy 65 = .ok (.getfield 48, 3) := by decide +kernel
theorem dX10_wrongBy_68 : decode cX10_wrongBy 68 = .ok (.aload_n 0, 1) := by decide +kernel
theorem dX10_wrongBy_69 : decode cX10_wrongBy 69 = .ok (.getfield 41, 3) := by decide +kernel
theorem dX10_wrongBy_72 : decode cX10_wrongBy 72 = .ok (.iload 4, 2) := by decide +kernel
theorem dX10_wrongBy_74 : decode cX10_wrongBy 74 = .ok (.iconst 0, 1) := by decide +kernel
theorem dX10_wrongBy_75 : decode cX10_wrongBy 75 = .ok (.invokevirtual 209, 3) := by decide +kernel
theorem dX10_wrongBy_78 : decode cX10_wrongBy 78 = .ok (.aload_n 0, 1) := by decide +kernel
theorem dX10_wrongBy_79 : decode cX10_wrongBy 79 = .ok (.getfield 41, 3) := by decide +kernel
theorem dX10_wrongBy_82 : decode cX10_wrongBy 82 = .ok (.iload 4, 2) := by decide +kernel
theorem dX10_wrongBy_84 : decode cX10_wrongBy 84 = .ok (.iconst 1, 1) := by decide +kernel
theorem dX10_wrongBy_85 : decode cX10_wrongBy 85 = .ok (.invokevirtual 209, 3) := by decide +kernel
theorem dX10_wrongBy_88 : decode cX10_wrongBy 88 = .ok (.invokevirtual 194, 3) := by decide +kernel
theorem dX10_wrongBy_91 : decode cX10_wrongBy 91 = .ok (.ifCond .ne 10, 3) := by decide +kernel
theorem dX10_wrongBy_94 : decode cX10_wrongBy 94 = .ok (.iload_n 3, 1) := by decide +kernel
theorem dX10_wrongBy_95 : decode cX10_wrongBy 95 = .ok (.iconst 1, 1) := by decide +kernel
theorem dX10_wrongBy_96 : decode cX10_wrongBy 96 = .ok (.iload 4, 2) := by decide +kernel
theorem dX10_wrongBy_98 : decode cX10_wrongBy 98 = .ok (.ishl, 1) := by decide +kernel
theorem dX10_wrongBy_99 : decode cX10_wrongBy 99 = .ok (.ior, 1) := by decide +kernel
theorem dX10_wrongBy_100 : decode cX10_wrongBy 100 = .ok (.istore_n 3, 1) := by decide +kernel
theorem dX10_wrongBy_101 : decode cX10_wrongBy 101 = .ok (.iinc 4 1, 3) := by decide +kernel
theorem dX10_wrongBy_104 : decode cX10_wrongBy 104 = .ok (.goto (-56), 3) := by decide +kernel
theorem dX10_wrongBy_107 : decode cX10_wrongBy 107 = .ok (.iload_n 3, 1) := by decide +kernel
theorem dX10_wrongBy_108 : decode cX10_wrongBy 108 = .ok (.ireturn, 1) := by decide +kernel
theorem dX10_needed_0 : decode cX10_needed 0 = .ok (.getstatic 240, 3) := by decide +kernel
theorem dX10_needed_3 : decode cX10_needed 3 = .ok (.astore_n 1, 1) := by decide +kernel
theorem dX10_needed_4 : decode cX10_needed 4 = .ok (.aload_n 1, 1) := by decide +kernel
theorem dX10_needed_5 : decode cX10_needed 5 = .ok (.arraylength, 1) := by decide +kernel
theorem dX10_needed_6 : decode cX10_needed 6 = .ok (.istore_n 2, 1) := by decide +kernel
theorem dX10_needed_7 : decode cX10_needed 7 = .ok (.iconst 0, 1) := by decide +kernel
theorem dX10_needed_8 : decode cX10_needed 8 = .ok (.istore_n 3, 1) := by decide +kernel
theorem dX10_needed_9 : decode cX10_needed 9 = .ok (.iload_n 3, 1) := by decide +kernel
theorem dX10_needed_10 : decode cX10_needed 10 = .ok (.iload_n 2, 1) := by decide +kernel
theorem dX10_needed_11 : decode cX10_needed 11 = .ok (.if_icmp .ge 59, 3) := by decide +kernel
theorem dX10_needed_14 : decode cX10_needed 14 = .ok (.aload_n 1, 1) := by decide +kernel
theorem dX10_needed_15 : decode cX10_needed 15 = .ok (.iload_n 3, 1) := by decide +kernel
theorem dX10_needed_16 : decode cX10_needed 16 = .ok (.iaload, 1) := by decide +kernel
theorem dX10_needed_17 : decode cX10_needed 17 = .ok (.istore 4, 2) := by decide +kernel
theorem dX10_needed_19 : decode cX10_needed 19 = .ok (.aload_n 0, 1) := by decide +kernel
theorem dX10_needed_20 : decode cX10_needed 20 = .ok (.getfield 62, 3) := by decide +kernel
theorem dX10_needed_23 : decode cX10_needed 23 = .ok (.aload_n 0, 1) := by decide +kernel
theorem dX10_needed_24 : decode cX10_needed 24 = .ok (.getfield 19, 3) := by decide +kernel
theorem dX10_needed_27 : decode cX10_needed 27 = .ok (.getfield 161, 3) := by decide +kernel
theorem dX10_needed_30 : decode cX10_needed 30 = .ok (.getfield 230, 3) := by decide +kernel
theorem dX10_needed_33 : decode cX10_needed 33 = .ok (.iload 4, 2) := by decide +kernel
theorem dX10_needed_35 : decode cX10_needed 35 = .ok (.iconst 0, 1) := by decide +kernel
theorem dX10_needed_36 : decode cX10_needed 36 = .ok (.invokevirtual 168, 3) := by decide +kernel
theorem dX10_needed_39 : decode cX10_needed 39 = .ok (.aload_n 0, 1) := by decide +kernel
theorem dX10_needed_40 : decode cX10_needed 40 = .ok (.aload_n 0, 1) := by decide +kernel
theorem dX10_needed_41 : decode cX10_needed 41 = .ok (.getfield 62, 3) := by decide +kernel
theorem dX10_needed_44 : decode cX10_needed 44 = .ok (.invokevirtual 205, 3) := by decide +kernel
theorem dX10_needed_47 : decode cX10_needed 47 = .ok (.aload_n 0, 1) := by decide +kernel
theorem dX10_needed_48 : decode cX10_needed 48 = .ok (.aload_n 0, 1) := by decide +kernel
theorem dX10_needed_49 : decode cX10_needed 49 = .ok (.getfield 19, 3) := by decide +kernel
theorem dX10_needed_52 : decode cX10_needed 52 = .ok (.getfield 158, 3) := by decide +kernel
theorem dX10_needed_55 : decode cX10_needed 55 = .ok (.invokevirtual 233, 3) := by decide +kernel
theorem dX10_needed_58 : decode cX10_needed 58 = .ok (.ifCond .ne 6, 3) := by decide +kernel
theorem dX10_needed_61 : decode cX10_needed 61 = .ok (.iload 4, 2) := by decide +kernel
theorem dX10_needed_63 : decode cX10_needed 63 = .ok (.ireturn, 1) := by decide +kernel
theorem dX10_needed_64 : decode cX10_needed 64 = .ok (.iinc 3 1, 3) := by decide +kernel
theorem dX10_needed_67 : decode cX10_needed 67 = .ok (.goto (-58), 3) := by decide +kernel
theorem dX10_needed_70 : decode cX10_needed 70 = .ok (.bipush (-9), 2) := by decide +kernel
theorem dX10_needed_72 : decode cX10_needed 72 = .ok (.ireturn, 1) := by decide +kernel
theorem dX10_fewest_0 : decode cX10_fewest 0 = .ok (.aload_n 0, 1) := by decide +kernel
theorem dX10_fewest_1 : decode cX10_fewest 1 = .ok (.aload_n 0, 1) := by decide +kernel
theorem dX10_fewest_2 : decode cX10_fewest 2 = .ok (.getfield 19, 3) := by decide +kernel
theorem dX10_fewest_5 : decode cX10_fewest 5 = .ok (.getfield 161, 3) := by decide +kernel
theorem dX10_fewest_8 : decode cX10_fewest 8 = .ok (.invokevirtual 205, 3) := by decide +kernel
theorem dX10_fewest_11 : decode cX10_fewest 11 = .ok (.aload_n 0, 1) := by decide +kernel
theorem dX10_fewest_12 : decode cX10_fewest 12 = .ok (.aload_n 0, 1) := by decide +kernel
theorem dX10_fewest_13 : decode cX10_fewest 13 = .ok (.getfield 19, 3) := by decide +kernel
theorem dX10_fewest_16 : decode cX10_fewest 16 = .ok (.getfield 158, 3) := by decide +kernel
theorem dX10_fewest_19 : decode cX10_fewest 19 = .ok (.invokevirtual 233, 3) := by decide +kernel
theorem dX10_fewest_22 : decode cX10_fewest 22 = .ok (.ifCond .eq 6, 3) := by decide +kernel
theorem dX10_fewest_25 : decode cX10_fewest 25 = .ok (.bipush (-9), 2) := by decide +kernel
theorem dX10_fewest_27 : decode cX10_fewest 27 = .ok (.ireturn, 1) := by decide +kernel
theorem dX10_fewest_28 : decode cX10_fewest 28 = .ok (.iconst 0, 1) := by decide +kernel
theorem dX10_fewest_29 : decode cX10_fewest 29 = .ok (.istore_n 1, 1) := by decide +kernel
theorem dX10_fewest_30 : decode cX10_fewest 30 = .ok (.iload_n 1, 1) := by decide +kernel
theorem dX10_fewest_31 : decode cX10_fewest 31 = .ok (.aload_n 0, 1) := by decide +kernel
theorem dX10_fewest_32 : decode cX10_fewest 32 = .ok (.getfield 69, 3) := by decide +kernel
theorem dX10_fewest_35 : decode cX10_fewest 35 = .ok (.getfield 244, 3) := by decide +kernel
theorem dX10_fewest_38 : decode cX10_fewest 38 = .ok (.if_icmp .gt 23, 3) := by decide +kernel
theorem dX10_fewest_41 : decode cX10_fewest 41 = .ok (.aload_n 0, 1) := by decide +kernel
theorem dX10_fewest_42 : decode cX10_fewest 42 = .ok (.iload_n 1, 1) := by decide +kernel
theorem dX10_fewest_43 : decode cX10_fewest 43 = .ok (.invokevirtual 247, 3) := by decide +kernel
theorem dX10_fewest_46 : decode cX10_fewest 46 = .ok (.istore_n 2, 1) := by decide +kernel
theorem dX10_fewest_47 : decode cX10_fewest 47 = .ok (.iload_n 2, 1) := by decide +kernel
theorem dX10_fewest_48 : decode cX10_fewest 48 = .ok (.bipush (-9), 2) := by decide +kernel
theorem dX10_fewest_50 : decode cX10_fewest 50 = .ok (.if_icmp .eq 5, 3) := by decide +kernel
theorem dX10_fewest_53 : decode cX10_fewest 53 = .ok (.iload_n 2, 1) := by decide +kernel
theorem dX10_fewest_54 : decode cX10_fewest 54 = .ok (.ireturn, 1) := by decide +kernel
theorem dX10_fewest_55 : decode cX10_fewest 55 = .ok (.iinc 1 1, 3) := by decide +kernel
theorem dX10_fewest_58 : decode cX10_fewest 58 = .ok (.goto (-28), 3) := by decide +kernel
theorem dX10_fewest_61 : decode cX10_fewest 61 = .ok (.bipush (-9), 2) := by decide +kernel
theorem dX10_fewest_63 : decode cX10_fewest 63 = .ok (.ireturn, 1) := by decide +kernel
theorem dX10_fewestOf_0 : decode cX10_fewestOf 0 = .ok (.iconst 0, 1) := by decide +kernel
theorem dX10_fewestOf_1 : decode cX10_fewestOf 1 = .ok (.istore_n 2, 1) := by decide +kernel
theorem dX10_fewestOf_2 : decode cX10_fewestOf 2 = .ok (.iload_n 2, 1) := by decide +kernel
theorem dX10_fewestOf_3 : decode cX10_fewestOf 3 = .ok (.aload_n 0, 1) := by decide +kernel
theorem dX10_fewestOf_4 : decode cX10_fewestOf 4 = .ok (.getfield 19, 3) := by decide +kernel
theorem dX10_fewestOf_7 : decode cX10_fewestOf 7 = .ok (.getfield 158, 3) := by decide +kernel
theorem dX10_fewestOf_10 : decode cX10_fewestOf 10 = .ok (.if_icmp .gt 51, 3) := by decide +kernel
theorem dX10_fewestOf_13 : decode cX10_fewestOf 13 = .ok (.iload_n 2, 1) := by decide +kernel
theorem dX10_fewestOf_14 : decode cX10_fewestOf 14 = .ok (.invokestatic 250, 3) := by decide +kernel
theorem dX10_fewestOf_17 : decode cX10_fewestOf 17 = .ok (.iload_n 1, 1) := by decide +kernel
theorem dX10_fewestOf_18 : decode cX10_fewestOf 18 = .ok (.if_icmp .ne 21, 3) := by decide +kernel
theorem dX10_fewestOf_21 : decode cX10_fewestOf 21 = .ok (.iload_n 2, 1) := by decide +kernel
theorem dX10_fewestOf_22 : decode cX10_fewestOf 22 = .ok (.aload_n 0, 1) := by decide +kernel
theorem dX10_fewestOf_23 : decode cX10_fewestOf 23 = .ok (.getfield 19, 3) := by decide +kernel
theorem dX10_fewestOf_26 : decode cX10_fewestOf 26 = .ok (.getfield 158, 3) := by decide +kernel
theorem dX10_fewestOf_29 : decode cX10_fewestOf 29 = .ok (.iconst (-1), 1) := by decide +kernel
theorem dX10_fewestOf_30 : decode cX10_fewestOf 30 = .ok (.ixor, 1) := by decide +kernel
theorem dX10_fewestOf_31 : decode cX10_fewestOf 31 = .ok (.iand, 1) := by decide +kernel
theorem dX10_fewestOf_32 : decode cX10_fewestOf 32 = .ok (.ifCond .ne 7, 3) := by decide +kernel
theorem dX10_fewestOf_35 : decode cX10_fewestOf 35 = .ok (.iconst 1, 1) := by decide +kernel
theorem dX10_fewestOf_36 : decode cX10_fewestOf 36 = .ok (.goto 4, 3) := by decide +kernel
theorem dX10_fewestOf_39 : decode cX10_fewestOf 39 = .ok (.iconst 0, 1) := by decide +kernel
theorem dX10_fewestOf_40 : decode cX10_fewestOf 40 = .ok (.istore_n 3, 1) := by decide +kernel
theorem dX10_fewestOf_41 : decode cX10_fewestOf 41 = .ok (.iload_n 3, 1) := by decide +kernel
theorem dX10_fewestOf_42 : decode cX10_fewestOf 42 = .ok (.ifCond .eq 13, 3) := by decide +kernel
theorem dX10_fewestOf_45 : decode cX10_fewestOf 45 = .ok (.aload_n 0, 1) := by decide +kernel
theorem dX10_fewestOf_46 : decode cX10_fewestOf 46 = .ok (.iload_n 2, 1) := by decide +kernel
theorem dX10_fewestOf_47 : decode cX10_fewestOf 47 = .ok (.invokevirtual 233, 3) := by decide +kernel
theorem dX10_fewestOf_50 : decode cX10_fewestOf 50 = .ok (.ifCond .ne 5, 3) := by decide +kernel
theorem dX10_fewestOf_53 : decode cX10_fewestOf 53 = .ok (.iload_n 2, 1) := by decide +kernel
theorem dX10_fewestOf_54 : decode cX10_fewestOf 54 = .ok (.ireturn, 1) := by decide +kernel
theorem dX10_fewestOf_55 : decode cX10_fewestOf 55 = .ok (.iinc 2 1, 3) := by decide +kernel
theorem dX10_fewestOf_58 : decode cX10_fewestOf 58 = .ok (.goto (-56), 3) := by decide +kernel
theorem dX10_fewestOf_61 : decode cX10_fewestOf 61 = .ok (.bipush (-9), 2) := by decide +kernel
theorem dX10_fewestOf_63 : decode cX10_fewestOf 63 = .ok (.ireturn, 1) := by decide +kernel
theorem dX10_broken_0 : decode cX10_broken 0 = .ok (.iload_n 1, 1) := by decide +kernel
theorem dX10_broken_1 : decode cX10_broken 1 = .ok (.iconst (-1), 1) := by decide +kernel
theorem dX10_broken_2 : decode cX10_broken 2 = .ok (.if_icmp .ge 5, 3) := by decide +kernel
theorem dX10_broken_5 : decode cX10_broken 5 = .ok (.iconst (-1), 1) := by decide +kernel
theorem dX10_broken_6 : decode cX10_broken 6 = .ok (.ireturn, 1) := by decide +kernel
theorem dX10_broken_7 : decode cX10_broken 7 = .ok (.aload_n 0, 1) := by decide +kernel
theorem dX10_broken_8 : decode cX10_broken 8 = .ok (.getfield 55, 3) := by decide +kernel
theorem dX10_broken_11 : decode cX10_broken 11 = .ok (.aload_n 0, 1) := by decide +kernel
theorem dX10_broken_12 : decode cX10_broken 12 = .ok (.getfield 19, 3) := by decide +kernel
theorem dX10_broken_15 : decode cX10_broken 15 = .ok (.getfield 161, 3) := by decide +kernel
theorem dX10_broken_18 : decode cX10_broken 18 = .ok (.invokevirtual 255, 3) := by decide +kernel
theorem dX10_broken_21 : decode cX10_broken 21 = .ok (.istore_n 2, 1) := by decide +kernel
theorem dX10_broken_22 : decode cX10_broken 22 = .ok (.iload_n 2, 1) := by decide +kernel
theorem dX10_broken_23 : decode cX10_broken 23 = .ok (.ifCond .eq 8, 3) := by decide +kernel
theorem dX10_broken_26 : decode cX10_broken 26 = .ok (.iload_n 1, 1) := by decide +kernel
theorem dX10_broken_27 : decode cX10_broken 27 = .ok (.iload_n 2, 1) := by decide +kernel
theorem dX10_broken_28 : decode cX10_broken 28 = .ok (.if_icmp .lt 6, 3) := by decide +kernel
theorem dX10_broken_31 : decode cX10_broken 31 = .ok (.bipush (-9), 2) := by decide +kernel
theorem dX10_broken_33 : decode cX10_broken 33 = .ok (.ireturn, 1) := by decide +kernel
theorem dX10_broken_34 : decode cX10_broken 34 = .ok (.iload_n 1, 1) := by decide +kernel
theorem dX10_broken_35 : decode cX10_broken 35 = .ok (.iconst (-1), 1) := by decide +kernel
theorem dX10_broken_36 : decode cX10_broken 36 = .ok (.if_icmp .ne 7, 3) := by decide +kernel
theorem dX10_broken_39 : decode cX10_broken 39 = .ok (.iload_n 2, 1) := by decide +kernel
theorem dX10_broken_40 : decode cX10_broken 40 = .ok (.goto 11, 3) := by decide +kernel
theorem dX10_broken_43 : decode cX10_broken 43 = .ok (.aload_n 0, 1) := by decide +kernel
theorem dX10_broken_44 : decode cX10_broken 44 = .ok (.getfield 55, 3) := by decide +kernel
theorem dX10_broken_47 : decode cX10_broken 47 = .ok (.iload_n 1, 1) := by decide +kernel
theorem dX10_broken_48 : decode cX10_broken 48 = .ok (.invokevirtual 259, 3) := by decide +kernel
theorem dX10_broken_51 : decode cX10_broken 51 = .ok (.ireturn, 1) := by decide +kernel
theorem dX10_sees_0 : decode cX10_sees 0 = .ok (.iload_n 1, 1) := by decide +kernel
theorem dX10_sees_1 : decode cX10_sees 1 = .ok (.ifCond .lt 9, 3) := by decide +kernel
theorem dX10_sees_4 : decode cX10_sees 4 = .ok (.iload_n 1, 1) := by decide +kernel
theorem dX10_sees_5 : decode cX10_sees 5 = .ok (.bipush 15, 2) := by decide +kernel
theorem dX10_sees_7 : decode cX10_sees 7 = .ok (.if_icmp .le 5, 3) := by decide +kernel
theorem dX10_sees_10 : decode cX10_sees 10 = .ok (.iconst (-1), 1) := by decide +kernel
theorem dX10_sees_11 : decode cX10_sees 11 = .ok (.ireturn, 1) := by decide +kernel
theorem dX10_sees_12 : decode cX10_sees 12 = .ok (.aload_n 0, 1) := by decide +kernel
theorem dX10_sees_13 : decode cX10_sees 13 = .ok (.getfield 89, 3) := by decide +kernel
theorem dX10_sees_16 : decode cX10_sees 16 = .ok (.iconst 4, 1) := by decide +kernel
theorem dX10_sees_17 : decode cX10_sees 17 = .ok (.if_icmp .lt 6, 3) := by decide +kernel
theorem dX10_sees_20 : decode cX10_sees 20 = .ok (.bipush (-3), 2) := by decide +kernel
theorem dX10_sees_22 : decode cX10_sees 22 = .ok (.ireturn, 1) := by decide +kernel
theorem dX10_sees_23 : decode cX10_sees 23 = .ok (.aload_n 0, 1) := by decide +kernel
theorem dX10_sees_24 : decode cX10_sees 24 = .ok (.dup, 1) := by decide +kernel
theorem dX10_sees_25 : decode cX10_sees 25 = .ok (.getfield 89, 3) := by decide +kernel
theorem dX10_sees_28 : decode cX10_sees 28 = .ok (.iconst 1, 1) := by decide +kernel
theorem dX10_sees_29 : decode cX10_sees 29 = .ok (.iadd, 1) := by decide +kernel
theorem dX10_sees_30 : decode cX10_sees 30 = .ok (.putfield 89, 3) := by decide +kernel
theorem dX10_sees_33 : decode cX10_sees 33 = .ok (.aload_n 0, 1) := by decide +kernel
theorem dX10_sees_34 : decode cX10_sees 34 = .ok (.dup, 1) := by decide +kernel
theorem dX10_sees_35 : decode cX10_sees 35 = .ok (.getfield 93, 3) := by decide +kernel
theorem dX10_sees_38 : decode cX10_sees 38 = .ok (.aload_n 0, 1) := by decide +kernel
theorem dX10_sees_39 : decode cX10_sees 39 = .ok (.iload_n 1, 1) := by decide +kernel
theorem dX10_sees_40 : decode cX10_sees 40 = .ok (.invokevirtual 262, 3) := by decide +kernel
theorem dX10_sees_43 : decode cX10_sees 43 = .ok (.iand, 1) := by decide +kernel
theorem dX10_sees_44 : decode cX10_sees 44 = .ok (.putfield 93, 3) := by decide +kernel
theorem dX10_sees_47 : decode cX10_sees 47 = .ok (.aload_n 0, 1) := by decide +kernel
theorem dX10_sees_48 : decode cX10_sees 48 = .ok (.getfield 89, 3) := by decide +kernel
theorem dX10_sees_51 : decode cX10_sees 51 = .ok (.ireturn, 1) := by decide +kernel
theorem dX10_forwardsBy_0 : decode cX10_forwardsBy 0 = .ok (.iconst 0, 1) := by decide +kernel
theorem dX10_forwardsBy_1 : decode cX10_forwardsBy 1 = .ok (.istore_n 2, 1) := by decide +kernel
theorem dX10_forwardsBy_2 : decode cX10_forwardsBy 2 = .ok (.iconst 0, 1) := by decide +kernel
theorem dX10_forwardsBy_3 : decode cX10_forwardsBy 3 = .ok (.istore_n 3, 1) := by decide +kernel
theorem dX10_forwardsBy_4 : decode cX10_forwardsBy 4 = .ok (.iload_n 3, 1) := by decide +kernel
theorem dX10_forwardsBy_5 : decode cX10_forwardsBy 5 = .ok (.bipush 7, 2) := by decide +kernel
theorem dX10_forwardsBy_7 : decode cX10_forwardsBy 7 = .ok (.if_icmp .gt 53, 3) := by decide +kernel
theorem dX10_forwardsBy_10 : decode cX10_forwardsBy 10 = .ok (.aload_n 0, 1) := by decide +kernel
theorem dX10_forwardsBy_11 : decode cX10_forwardsBy 11 = .ok (.getfield 62, 3) := by decide +kernel
theorem dX10_forwardsBy_14 : decode cX10_forwardsBy 14 = .ok (.aload_n 0, 1) := by decide +kernel
theorem dX10_forwardsBy_15 : decode cX10_forwardsBy 15 = .ok (.getfield 19, 3) := by decide +kernel
theorem dX10_forwardsBy_18 : decode cX10_forwardsBy 18 = .ok (.getfield 161, 3) := by decide +kernel
theorem dX10_forwardsBy_21 : decode cX10_forwardsBy 21 = .ok (.getfield 230, 3) := by decide +kernel
theorem dX10_forwardsBy_24 : decode cX10_forwardsBy 24 = .ok (.iload_n 3, 1) := by decide +kernel
theorem dX10_forwardsBy_25 : decode cX10_forwardsBy 25 = .ok (.iconst 0, 1) := by decide +kernel
theorem dX10_forwardsBy_26 : decode cX10_forwardsBy 26 = .ok (.invokevirtual 168, 3) := by decide +kernel
theorem dX10_forwardsBy_29 : decode cX10_forwardsBy 29 = .ok (.aload_n 0, 1) := by decide +kernel
theorem dX10_forwardsBy_30 : decode cX10_forwardsBy 30 = .ok (.aload_n 0, 1) := by decide +kernel
theorem dX10_forwardsBy_31 : decode cX10_forwardsBy 31 = .ok (.getfield 62, 3) := by decide +kernel
theorem dX10_forwardsBy_34 : decode cX10_forwardsBy 34 = .ok (.invokevirtual 205, 3) := by decide +kernel
theorem dX10_forwardsBy_37 : decode cX10_forwardsBy 37 = .ok (.aload_n 0, 1) := by decide +kernel
theorem dX10_forwardsBy_38 : decode cX10_forwardsBy 38 = .ok (.getfield 41, 3) := by decide +kernel
theorem dX10_forwardsBy_41 : decode cX10_forwardsBy 41 = .ok (.invokevirtual 236, 3) := by decide +kernel
theorem dX10_forwardsBy_44 : decode cX10_forwardsBy 44 = .ok (.iload_n 1, 1) := by decide +kernel
theorem dX10_forwardsBy_45 : decode cX10_forwardsBy 45 = .ok (.if_icmp .ne 9, 3) := by decide +kernel
theorem dX10_forwardsBy_48 : decode cX10_forwardsBy 48 = .ok (.iload_n 2, 1) := by decide +kernel
theorem dX10_forwardsBy_49 : decode cX10_forwardsBy 49 = .ok (.iconst 1, 1) := by decide +kernel
theorem dX10_forwardsBy_50 : decode cX10_forwardsBy 50 = .ok (.iload_n 3, 1) := by decide +kernel
theorem dX10_forwardsBy_51 : decode cX10_forwardsBy 51 = .ok (.ishl, 1) := by decide +kernel
theorem dX10_forwardsBy_52 : decode cX10_forwardsBy 52 = .ok (.ior, 1) := by decide +kernel
theorem dX10_forwardsBy_53 : decode cX10_forwardsBy 53 = .ok (.istore_n 2, 1) := by decide +kernel
theorem dX10_forwardsBy_54 : decode cX10_forwardsBy 54 = .ok (.iinc 3 1, 3) := by decide +kernel
theorem dX10_forwardsBy_57 : decode cX10_forwardsBy 57 = .ok (.goto (-53), 3) := by decide +kernel
theorem dX10_forwardsBy_60 : decode cX10_forwardsBy 60 = .ok (.iload_n 2, 1) := by decide +kernel
theorem dX10_forwardsBy_61 : decode cX10_forwardsBy 61 = .ok (.ireturn, 1) := by decide +kernel
theorem dX10_forget_0 : decode cX10_forget 0 = .ok (.aload_n 0, 1) := by decide +kernel
theorem dX10_forget_1 : decode cX10_forget 1 = .ok (.getfield 89, 3) := by decide +kernel
theorem dX10_forget_4 : decode cX10_forget 4 = .ok (.istore_n 1, 1) := by decide +kernel
theorem dX10_forget_5 : decode cX10_forget 5 = .ok (.aload_n 0, 1) := by decide +kernel
theorem dX10_forget_6 : decode cX10_forget 6 = .ok (.invokevirtual 86, 3) := by decide +kernel
theorem dX10_forget_9 : decode cX10_forget 9 = .ok (.iload_n 1, 1) := by decide +kernel
theorem dX10_forget_10 : decode cX10_forget 10 = .ok (.ireturn, 1) := by decide +kernel
theorem dX10_unseen_0 : decode cX10_unseen 0 = .ok (.aload_n 0, 1) := by decide +kernel
theorem dX10_unseen_1 : decode cX10_unseen 1 = .ok (.getfield 93, 3) := by decide +kernel
theorem dX10_unseen_4 : decode cX10_unseen 4 = .ok (.ireturn, 1) := by decide +kernel
theorem dX10_keep_0 : decode cX10_keep 0 = .ok (.iload_n 1, 1) := by decide +kernel
theorem dX10_keep_1 : decode cX10_keep 1 = .ok (.ifCond .lt 8, 3) := by decide +kernel
theorem dX10_keep_4 : decode cX10_keep 4 = .ok (.iload_n 1, 1) := by decide +kernel
theorem dX10_keep_5 : decode cX10_keep 5 = .ok (.iconst 2, 1) := by decide +kernel
theorem dX10_keep_6 : decode cX10_keep 6 = .ok (.if_icmp .lt 5, 3) := by decide +kernel
theorem dX10_keep_9 : decode cX10_keep 9 = .ok (.iconst (-1), 1) := by decide +kernel
theorem dX10_keep_10 : decode cX10_keep 10 = .ok (.ireturn, 1) := by decide +kernel
theorem dX10_keep_11 : decode cX10_keep 11 = .ok (.aload_n 0, 1) := by decide +kernel
theorem dX10_keep_12 : decode cX10_keep 12 = .ok (.getfield 30, 3) := by decide +kernel
theorem dX10_keep_15 : decode cX10_keep 15 = .ok (.iload_n 1, 1) := by decide +kernel
theorem dX10_keep_16 : decode cX10_keep 16 = .ok (.aaload, 1) := by decide +kernel
theorem dX10_keep_17 : decode cX10_keep 17 = .ok (.aload_n 0, 1) := by decide +kernel
theorem dX10_keep_18 : decode cX10_keep 18 = .ok (.getfield 19, 3) := by decide +kernel
theorem dX10_keep_21 : decode cX10_keep 21 = .ok (.invokevirtual 265, 3) := by decide +kernel
theorem dX10_keep_24 : decode cX10_keep 24 = .ok (.aload_n 0, 1) := by decide +kernel
theorem dX10_keep_25 : decode cX10_keep 25 = .ok (.getfield 34, 3) := by decide +kernel
theorem dX10_keep_28 : decode cX10_keep 28 = .ok (.iload_n 1, 1) := by decide +kernel
theorem dX10_keep_29 : decode cX10_keep 29 = .ok (.iconst 1, 1) := by decide +kernel
theorem dX10_keep_30 : decode cX10_keep 30 = .ok (.bastore, 1) := by decide +kernel
theorem dX10_keep_31 : decode cX10_keep 31 = .ok (.aload_n 0, 1) := by decide +kernel
theorem dX10_keep_32 : decode cX10_keep 32 = .ok (.getfield 19, 3) := by decide +kernel
theorem dX10_keep_35 : decode cX10_keep 35 = .ok (.getfield 111, 3) := by decide +kernel
theorem dX10_keep_38 : decode cX10_keep 38 = .ok (.getfield 137, 3) := by decide +kernel
theorem dX10_keep_41 : decode cX10_keep 41 = .ok (.ireturn, 1) := by decide +kernel
theorem dX10_back_0 : decode cX10_back 0 = .ok (.iload_n 1, 1) := by decide +kernel
theorem dX10_back_1 : decode cX10_back 1 = .ok (.ifCond .lt 8, 3) := by decide +kernel
theorem dX10_back_4 : decode cX10_back 4 = .ok (.iload_n 1, 1) := by decide +kernel
theorem dX10_back_5 : decode cX10_back 5 = .ok (.iconst 2, 1) := by decide +kernel
theorem dX10_back_6 : decode cX10_back 6 = .ok (.if_icmp .lt 5, 3) := by decide +kernel
theorem dX10_back_9 : decode cX10_back 9 = .ok (.iconst (-1), 1) := by decide +kernel
theorem dX10_back_10 : decode cX10_back 10 = .ok (.ireturn, 1) := by decide +kernel
theorem dX10_back_11 : decode cX10_back 11 = .ok (.aload_n 0, 1) := by decide +kernel
theorem dX10_back_12 : decode cX10_back 12 = .ok (.getfield 34, 3) := by decide +kernel
theorem dX10_back_15 : decode cX10_back 15 = .ok (.iload_n 1, 1) := by decide +kernel
theorem dX10_back_16 : decode cX10_back 16 = .ok (.baload, 1) := by decide +kernel
theorem dX10_back_17 : decode cX10_back 17 = .ok (.ifCond .ne 6, 3) := by decide +kernel
theorem dX10_back_20 : decode cX10_back 20 = .ok (.bipush (-2), 2) := by decide +kernel
theorem dX10_back_22 : decode cX10_back 22 = .ok (.ireturn, 1) := by decide +kernel
theorem dX10_back_23 : decode cX10_back 23 = .ok (.aload_n 0, 1) := by decide +kernel
theorem dX10_back_24 : decode cX10_back 24 = .ok (.getfield 19, 3) := by decide +kernel
theorem dX10_back_27 : decode cX10_back 27 = .ok (.aload_n 0, 1) := by decide +kernel
theorem dX10_back_28 : decode cX10_back 28 = .ok (.getfield 30, 3) := by decide +kernel
theorem dX10_back_31 : decode cX10_back 31 = .ok (.iload_n 1, 1) := by decide +kernel
theorem dX10_back_32 : decode cX10_back 32 = .ok (.aaload, 1) := by decide +kernel
theorem dX10_back_33 : decode cX10_back 33 = .ok (.invokevirtual 265, 3) := by decide +kernel
theorem dX10_back_36 : decode cX10_back 36 = .ok (.aload_n 0, 1) := by decide +kernel
theorem dX10_back_37 : decode cX10_back 37 = .ok (.getfield 26, 3) := by decide +kernel
theorem dX10_back_40 : decode cX10_back 40 = .ok (.invokevirtual 83, 3) := by decide +kernel
theorem dX10_back_43 : decode cX10_back 43 = .ok (.aload_n 0, 1) := by decide +kernel
theorem dX10_back_44 : decode cX10_back 44 = .ok (.getfield 19, 3) := by decide +kernel
theorem dX10_back_47 : decode cX10_back 47 = .ok (.getfield 111, 3) := by decide +kernel
theorem dX10_back_50 : decode cX10_back 50 = .ok (.getfield 137, 3) := by decide +kernel
theorem dX10_back_53 : decode cX10_back 53 = .ok (.ireturn, 1) := by decide +kernel
theorem dX10_count_0 : decode cX10_count 0 = .ok (.iload_n 1, 1) := by decide +kernel
theorem dX10_count_1 : decode cX10_count 1 = .ok (.tableswitch 132 0 8 #[51, 59, 67, 78, 89, 100, 111, 116, 124], 51) := by decide +kernel
theorem dX10_count_52 : decode cX10_count 52 = .ok (.aload_n 0, 1) := by decide +kernel
theorem dX10_count_53 : decode cX10_count 53 = .ok (.getfield 69, 3) := by decide +kernel
theorem dX10_count_56 : decode cX10_count 56 = .ok (.getfield 244, 3) := by decide +kernel
theorem dX10_count_59 : decode cX10_count 59 = .ok (.ireturn, 1) := by decide +kernel
theorem dX10_count_60 : decode cX10_count 60 = .ok (.aload_n 0, 1) := by decide +kernel
theorem dX10_count_61 : decode cX10_count 61 = .ok (.getfield 19, 3) := by decide +kernel
theorem dX10_count_64 : decode cX10_count 64 = .ok (.getfield 158, 3) := by decide +kernel
theorem dX10_count_67 : decode cX10_count 67 = .ok (.ireturn, 1) := by decide +kernel
theorem dX10_count_68 : decode cX10_count 68 = .ok (.aload_n 0, 1) := by decide +kernel
theorem dX10_count_69 : decode cX10_count 69 = .ok (.getfield 19, 3) := by decide +kernel
theorem dX10_count_72 : decode cX10_count 72 = .ok (.getfield 111, 3) := by decide +kernel
theorem dX10_count_75 : decode cX10_count 75 = .ok (.getfield 137, 3) := by decide +kernel
theorem dX10_count_78 : decode cX10_count 78 = .ok (.ireturn, 1) := by decide +kernel
theorem dX10_count_79 : decode cX10_count 79 = .ok (.aload_n 0, 1) := by decide +kernel
theorem dX10_count_80 : decode cX10_count 80 = .ok (.getfield 19, 3) := by decide +kernel
theorem dX10_count_83 : decode cX10_count 83 = .ok (.getfield 161, 3) := by decide +kernel
theorem dX10_count_86 : decode cX10_count 86 = .ok (.getfield 230, 3) := by decide +kernel
theorem dX10_count_89 : decode cX10_count 89 = .ok (.ireturn, 1) := by decide +kernel
theorem dX10_count_90 : decode cX10_count 90 = .ok (.aload_n 0, 1) := by decide +kernel
theorem dX10_count_91 : decode cX10_count 91 = .ok (.getfield 19, 3) := by decide +kernel
theorem dX10_count_94 : decode cX10_count 94 = .ok (.getfield 161, 3) := by decide +kernel
theorem dX10_count_97 : decode cX10_count 97 = .ok (.getfield 268, 3) := by decide +kernel
theorem dX10_count_100 : decode cX10_count 100 = .ok (.ireturn, 1) := by decide +kernel
theorem dX10_count_101 : decode cX10_count 101 = .ok (.aload_n 0, 1) := by decide +kernel
theorem dX10_count_102 : decode cX10_count 102 = .ok (.getfield 19, 3) := by decide +kernel
theorem dX10_count_105 : decode cX10_count 105 = .ok (.getfield 161, 3) := by decide +kernel
theorem dX10_count_108 : decode cX10_count 108 = .ok (.getfield 271, 3) := by decide +kernel
theorem dX10_count_111 : decode cX10_count 111 = .ok (.ireturn, 1) := by decide +kernel
theorem dX10_count_112 : decode cX10_count 112 = .ok (.aload_n 0, 1) := by decide +kernel
theorem dX10_count_113 : decode cX10_count 113 = .ok (.getfield 89, 3) := by decide +kernel
theorem dX10_count_116 : decode cX10_count 116 = .ok (.ireturn, 1) := by decide +kernel
theorem dX10_count_117 : decode cX10_count 117 = .ok (.aload_n 0, 1) := by decide +kernel
theorem dX10_count_118 : decode cX10_count 118 = .ok (.getfield 12, 3) := by decide +kernel
theorem dX10_count_121 : decode cX10_count 121 = .ok (.getfield 104, 3) := by decide +kernel
theorem dX10_count_124 : decode cX10_count 124 = .ok (.ireturn, 1) := by decide +kernel
theorem dX10_count_125 : decode cX10_count 125 = .ok (.aload_n 0, 1) := by decide +kernel
theorem dX10_count_126 : decode cX10_count 126 = .ok (.getfield 26, 3) := by decide +kernel
theorem dX10_count_129 : decode cX10_count 129 = .ok (.getfield 171, 3) := by decide +kernel
theorem dX10_count_132 : decode cX10_count 132 = .ok (.ireturn, 1) := by decide +kernel
theorem dX10_count_133 : decode cX10_count 133 = .ok (.iconst (-1), 1) := by decide +kernel
theorem dX10_count_134 : decode cX10_count 134 = .ok (.ireturn, 1) := by decide +kernel
theorem dX11_init_0 : decode cX11_init 0 = .ok (.aload_n 0, 1) := by decide +kernel
theorem dX11_init_1 : decode cX11_init 1 = .ok (.invokespecial 1, 3) := by decide +kernel
theorem dX11_init_4 : decode cX11_init 4 = .ok (.aload_n 0, 1) := by decide +kernel
theorem dX11_init_5 : decode cX11_init 5 = .ok (.bipush 6, 2) := by decide +kernel
theorem dX11_init_7 : decode cX11_init 7 = .ok (.newarray .boolean, 2) := by decide +kernel
theorem dX11_init_9 : decode cX11_init 9 = .ok (.putfield 7, 3) := by decide +kernel
theorem dX11_init_12 : decode cX11_init 12 = .ok (.aload_n 0, 1) := by decide +kernel
theorem dX11_init_13 : decode cX11_init 13 = .ok (.bipush 6, 2) := by decide +kernel
theorem dX11_init_15 : decode cX11_init 15 = .ok (.newarray .int, 2) := by decide +kernel
theorem dX11_init_17 : decode cX11_init 17 = .ok (.putfield 13, 3) := by decide +kernel
theorem dX11_init_20 : decode cX11_init 20 = .ok (.aload_n 0, 1) := by decide +kernel
theorem dX11_init_21 : decode cX11_init 21 = .ok (.bipush 6, 2) := by decide +kernel
theorem dX11_init_23 : decode cX11_init 23 = .ok (.newarray .int, 2) := by decide +kernel
theorem dX11_init_25 : decode cX11_init 25 = .ok (.putfield 17, 3) := by decide +kernel
theorem dX11_init_28 : decode cX11_init 28 = .ok (.aload_n 0, 1) := by decide +kernel
theorem dX11_init_29 : decode cX11_init 29 = .ok (.bipush 29, 2) := by decide +kernel
theorem dX11_init_31 : decode cX11_init 31 = .ok (.newarray .int, 2) := by decide +kernel
theorem dX11_init_33 : decode cX11_init 33 = .ok (.putfield 20, 3) := by decide +kernel
theorem dX11_init_36 : decode cX11_init 36 = .ok (.aload_n 0, 1) := by decide +kernel
theorem dX11_init_37 : decode cX11_init 37 = .ok (.sipush 290, 3) := by decide +kernel
theorem dX11_init_40 : decode cX11_init 40 = .ok (.newarray .int, 2) := by decide +kernel
theorem dX11_init_42 : decode cX11_init 42 = .ok (.putfield 23, 3) := by decide +kernel
theorem dX11_init_45 : decode cX11_init 45 = .ok (.aload_n 0, 1) := by decide +kernel
theorem dX11_init_46 : decode cX11_init 46 = .ok (.bipush 58, 2) := by decide +kernel
theorem dX11_init_48 : decode cX11_init 48 = .ok (.newarray .int, 2) := by decide +kernel
theorem dX11_init_50 : decode cX11_init 50 = .ok (.putfield 26, 3) := by decide +kernel
theorem dX11_init_53 : decode cX11_init 53 = .ok (.aload_n 0, 1) := by decide +kernel
theorem dX11_init_54 : decode cX11_init 54 = .ok (.iconst 2, 1) := by decide +kernel
theorem dX11_init_55 : decode cX11_init 55 = .ok (.newarray .boolean, 2) := by decide +kernel
theorem dX11_init_57 : decode cX11_init 57 = .ok (.putfield 29, 3) := by decide +kernel
theorem dX11_init_60 : decode cX11_init 60 = .ok (.aload_n 0, 1) := by decide +kernel
theorem dX11_init_61 : decode cX11_init 61 = .ok (.iconst 4, 1) := by decide +kernel
theorem dX11_init_62 : decode cX11_init 62 = .ok (.newarray .int, 2) := by decide +kernel
theorem dX11_init_64 : decode cX11_init 64 = .ok (.putfield 32, 3) := by decide +kernel
theorem dX11_init_67 : decode cX11_init 67 = .ok (.aload_n 0, 1) := by decide +kernel
theorem dX11_init_68 : decode cX11_init 68 = .ok (.bipush 116, 2) := by decide +kernel
theorem dX11_init_70 : decode cX11_init 70 = .ok (.newarray .int, 2) := by decide +kernel
theorem dX11_init_72 : decode cX11_init 72 = .ok (.putfield 35, 3) := by decide +kernel
theorem dX11_init_75 : decode cX11_init 75 = .ok (.aload_n 0, 1) := by decide +kernel
theorem dX11_init_76 : decode cX11_init 76 = .ok (.sipush 200, 3) := by decide +kernel
theorem dX11_init_79 : decode cX11_init 79 = .ok (.newarray .int, 2) := by decide +kernel
theorem dX11_init_81 : decode cX11_init 81 = .ok (.putfield 38, 3) := by decide +kernel
theorem dX11_init_84 : decode cX11_init 84 = .ok (.aload_n 0, 1) := by decide +kernel
theorem dX11_init_85 : decode cX11_init 85 = .ok (.sipush 200, 3) := by decide +kernel
theorem dX11_init_88 : decode cX11_init 88 = .ok (.newarray .int, 2) := by decide +kernel
theorem dX11_init_90 : decode cX11_init 90 = .ok (.putfield 41, 3) := by decide +kernel
theorem dX11_init_93 : decode cX11_init 93 = .ok (.aload_n 0, 1) := by decide +kernel
theorem dX11_init_94 : decode cX11_init 94 = .ok (.sipush 200, 3) := by decide +kernel
theorem dX11_init_97 : decode cX11_init 97 = .ok (.newarray .int, 2) := by decide +kernel
theorem dX11_init_99 : decode cX11_init 99 = .ok (.putfield 44, 3) := by decide +kernel
theorem dX11_init_102 : decode cX11_init 102 = .ok (.aload_n 0, 1) := by decide +kernel
theorem dX11_init_103 : decode cX11_init 103 = .ok (.bipush 40, 2) := by decide +kernel
theorem dX11_init_105 : decode cX11_init 105 = .ok (.newarray .int, 2) := by decide +kernel
theorem dX11_init_107 : decode cX11_init 107 = .ok (.putfield 47, 3) := by decide +kernel
theorem dX11_init_110 : decode cX11_init 110 = .ok (.aload_n 0, 1) := by decide +kernel
theorem dX11_init_111 : decode cX11_init 111 = .ok (.bipush 40, 2) := by decide +kernel
theorem dX11_init_113 : decode cX11_init 113 = .ok (.newarray .int, 2) := by decide +kernel
theorem dX11_init_115 : decode cX11_init 115 = .ok (.putfield 50, 3) := by decide +kernel
theorem dX11_init_118 : decode cX11_init 118 = .ok (.aload_n 0, 1) := by decide +kernel
theorem dX11_init_119 : decode cX11_init 119 = .ok (.bipush 100, 2) := by decide +kernel
theorem dX11_init_121 : decode cX11_init 121 = .ok (.newarray .int, 2) := by decide +kernel
theorem dX11_init_123 : decode cX11_init 123 = .ok (.putfield 53, 3) := by decide +kernel
theorem dX11_init_126 : decode cX11_init 126 = .ok (.aload_n 0, 1) := by decide +kernel
theorem dX11_init_127 : decode cX11_init 127 = .ok (.bipush 6, 2) := by decide +kernel
theorem dX11_init_129 : decode cX11_init 129 = .ok (.newarray .boolean, 2) := by decide +kernel
theorem dX11_init_131 : decode cX11_init 131 = .ok (.putfield 56, 3) := by decide +kernel
theorem dX11_init_134 : decode cX11_init 134 = .ok (.aload_n 0, 1) := by decide +kernel
theorem dX11_init_135 : decode cX11_init 135 = .ok (.bipush 6, 2) := by decide +kernel
theorem dX11_init_137 : decode cX11_init 137 = .ok (.newarray .int, 2) := by decide +kernel
theorem dX11_init_139 : decode cX11_init 139 = .ok (.putfield 59, 3) := by decide +kernel
theorem dX11_init_142 : decode cX11_init 142 = .ok (.aload_n 0, 1) := by decide +kernel
theorem dX11_init_143 : decode cX11_init 143 = .ok (.bipush 6, 2) := by decide +kernel
theorem dX11_init_145 : decode cX11_init 145 = .ok (.newarray .int, 2) := by decide +kernel
theorem dX11_init_147 : decode cX11_init 147 = .ok (.putfield 62, 3) := by decide +kernel
theorem dX11_init_150 : decode cX11_init 150 = .ok (.aload_n 0, 1) := by decide +kernel
theorem dX11_init_151 : decode cX11_init 151 = .ok (.bipush 24, 2) := by decide +kernel
theorem dX11_init_153 : decode cX11_init 153 = .ok (.newarray .int, 2) := by decide +kernel
theorem dX11_init_155 : decode cX11_init 155 = .ok (.putfield 65, 3) := by decide +kernel
theorem dX11_init_158 : decode cX11_init 158 = .ok (.aload_n 0, 1) := by decide +kernel
theorem dX11_init_159 : decode cX11_init 159 = .ok (.bipush 6, 2) := by decide +kernel
theorem dX11_init_161 : decode cX11_init 161 = .ok (.newarray .int, 2) := by decide +kernel
theorem dX11_init_163 : decode cX11_init 163 = .ok (.putfield 68, 3) := by decide +kernel
theorem dX11_init_166 : decode cX11_init 166 = .ok (.aload_n 0, 1) := by decide +kernel
theorem dX11_init_167 : decode cX11_init 167 = .ok (.bipush 6, 2) := by decide +kernel
theorem dX11_init_169 : decode cX11_init 169 = .ok (.newarray .int, 2) := by decide +kernel
theorem dX11_init_171 : decode cX11_init 171 = .ok (.putfield 71, 3) := by decide +kernel
theorem dX11_init_174 : decode cX11_init 174 = .ok (.aload_n 0, 1) := by decide +kernel
theorem dX11_init_175 : decode cX11_init 175 = .ok (.sipush 200, 3) := by decide +kernel
theorem dX11_init_178 : decode cX11_init 178 = .ok (.newarray .int, 2) := by decide +kernel
theorem dX11_init_180 : decode cX11_init 180 = .ok (.putfield 74, 3) := by decide +kernel
theorem dX11_init_183 : decode cX11_init 183 = .ok (.aload_n 0, 1) := by decide +kernel
theorem dX11_init_184 : decode cX11_init 184 = .ok (.sipush 200, 3) := by decide +kernel
theorem dX11_init_187 : decode cX11_init 187 = .ok (.newarray .int, 2) := by decide +kernel
theorem dX11_init_189 : decode cX11_init 189 = .ok (.putfield 77, 3) := by decide +kernel
theorem dX11_init_192 : decode cX11_init 192 = .ok (.aload_n 0, 1) := by decide +kernel
theorem dX11_init_193 : decode cX11_init 193 = .ok (.sipush 200, 3) := by decide +kernel
theorem dX11_init_196 : decode cX11_init 196 = .ok (.newarray .int, 2) := by decide +kernel
theorem dX11_init_198 : decode cX11_init 198 = .ok (.putfield 80, 3) := by decide +kernel
theorem dX11_init_201 : decode cX11_init 201 = .ok (.aload_n 0, 1) := by decide +kernel
theorem dX11_init_202 : decode cX11_init 202 = .ok (.sipush 200, 3) := by decide +kernel
theorem dX11_init_205 : decode cX11_init 205 = .ok (.newarray .int, 2) := by decide +kernel
theorem dX11_init_207 : decode cX11_init 207 = .ok (.putfield 83, 3) := by decide +kernel
theorem dX11_init_210 : decode cX11_init 210 = .ok (.aload_n 0, 1) := by decide +kernel
theorem dX11_init_211 : decode cX11_init 211 = .ok (.bipush 6, 2) := by decide +kernel
theorem dX11_init_213 : decode cX11_init 213 = .ok (.newarray .int, 2) := by decide +kernel
theorem dX11_init_215 : decode cX11_init 215 = .ok (.putfield 86, 3) := by decide +kernel
theorem dX11_init_218 : decode cX11_init 218 = .ok (.aload_n 0, 1) := by decide +kernel
theorem dX11_init_219 : decode cX11_init 219 = .ok (.bipush 6, 2) := by decide +kernel
theorem dX11_init_221 : decode cX11_init 221 = .ok (.newarray .int, 2) := by decide +kernel
theorem dX11_init_223 : decode cX11_init 223 = .ok (.putfield 89, 3) := by decide +kernel
theorem dX11_init_226 : decode cX11_init 226 = .ok (.aload_n 0, 1) := by decide +kernel
theorem dX11_init_227 : decode cX11_init 227 = .ok (.bipush 8, 2) := by decide +kernel
theorem dX11_init_229 : decode cX11_init 229 = .ok (.newarray .int, 2) := by decide +kernel
theorem dX11_init_231 : decode cX11_init 231 = .ok (.putfield 92, 3) := by decide +kernel
theorem dX11_init_234 : decode cX11_init 234 = .ok (.aload_n 0, 1) := by decide +kernel
theorem dX11_init_235 : decode cX11_init 235 = .ok (.bipush 29, 2) := by decide +kernel
theorem dX11_init_237 : decode cX11_init 237 = .ok (.newarray .int, 2) := by decide +kernel
theorem dX11_init_239 : decode cX11_init 239 = .ok (.putfield 95, 3) := by decide +kernel
theorem dX11_init_242 : decode cX11_init 242 = .ok (.aload_n 0, 1) := by decide +kernel
theorem dX11_init_243 : decode cX11_init 243 = .ok (.invokevirtual 98, 3) := by decide +kernel
theorem dX11_init_246 : decode cX11_init 246 = .ok (.aload_n 0, 1) := by decide +kernel
theorem dX11_init_247 : decode cX11_init 247 = .ok (.invokevirtual 101, 3) := by decide +kernel
theorem dX11_init_250 : decode cX11_init 250 = .ok (.return_, 1) := by decide +kernel
theorem dX11_in_0 : decode cX11_in 0 = .ok (.iload_n 0, 1) := by decide +kernel
theorem dX11_in_1 : decode cX11_in 1 = .ok (.iload_n 1, 1) := by decide +kernel
theorem dX11_in_2 : decode cX11_in 2 = .ok (.if_icmp .lt 12, 3) := by decide +kernel
theorem dX11_in_5 : decode cX11_in 5 = .ok (.iload_n 0, 1) := by decide +kernel
theorem dX11_in_6 : decode cX11_in 6 = .ok (.iload_n 2, 1) := by decide +kernel
theorem dX11_in_7 : decode cX11_in 7 = .ok (.if_icmp .gt 7, 3) := by decide +kernel
theorem dX11_in_10 : decode cX11_in 10 = .ok (.iconst 1, 1) := by decide +kernel
theorem dX11_in_11 : decode cX11_in 11 = .ok (.goto 4, 3) := by decide +kernel
theorem dX11_in_14 : decode cX11_in 14 = .ok (.iconst 0, 1) := by decide +kernel
theorem dX11_in_15 : decode cX11_in 15 = .ok (.ireturn, 1) := by decide +kernel
theorem dX11_has_0 : decode cX11_has 0 = .ok (.iload_n 0, 1) := by decide +kernel
theorem dX11_has_1 : decode cX11_has 1 = .ok (.iload_n 1, 1) := by decide +kernel
theorem dX11_has_2 : decode cX11_has 2 = .ok (.ishr, 1) := by decide +kernel
theorem dX11_has_3 : decode cX11_has 3 = .ok (.iconst 1, 1) := by decide +kernel
theorem dX11_has_4 : decode cX11_has 4 = .ok (.iand, 1) := by decide +kernel
theorem dX11_has_5 : decode cX11_has 5 = .ok (.iconst 1, 1) := by decide +kernel
theorem dX11_has_6 : decode cX11_has 6 = .ok (.if_icmp .ne 7, 3) := by decide +kernel
theorem dX11_has_9 : decode cX11_has 9 = .ok (.iconst 1, 1) := by decide +kernel
theorem dX11_has_10 : decode cX11_has 10 = .ok (.goto 4, 3) := by decide +kernel
theorem dX11_has_13 : decode cX11_has 13 = .ok (.iconst 0, 1) := by decide +kernel
theorem dX11_has_14 : decode cX11_has 14 = .ok (.ireturn, 1) := by decide +kernel
theorem dX11_ones_0 : decode cX11_ones 0 = .ok (.iconst 0, 1) := by decide +kernel
theorem dX11_ones_1 : decode cX11_ones 1 = .ok (.istore_n 1, 1) := by decide +kernel
theorem dX11_ones_2 : decode cX11_ones 2 = .ok (.iconst 0, 1) := by decide +kernel
theorem dX11_ones_3 : decode cX11_ones 3 = .ok (.istore_n 2, 1) := by decide +kernel
theorem dX11_ones_4 : decode cX11_ones 4 = .ok (.iload_n 2, 1) := by decide +kernel
theorem dX11_ones_5 : decode cX11_ones 5 = .ok (.bipush 8, 2) := by decide +kernel
theorem dX11_ones_7 : decode cX11_ones 7 = .ok (.if_icmp .ge 25, 3) := by decide +kernel
theorem dX11_ones_10 : decode cX11_ones 10 = .ok (.iload_n 1, 1) := by decide +kernel
theorem dX11_ones_11 : decode cX11_ones 11 = .ok (.iload_n 0, 1) := by decide +kernel
theorem dX11_ones_12 : decode cX11_ones 12 = .ok (.iload_n 2, 1) := by decide +kernel
theorem dX11_ones_13 : decode cX11_ones 13 = .ok (.invokestatic 108, 3) := by decide +kernel
theorem dX11_ones_16 : decode cX11_ones 16 = .ok (.ifCond .eq 7, 3) := by decide +kernel
theorem dX11_ones_19 : decode cX11_ones 19 = .ok (.iconst 1, 1) := by decide +kernel
theorem dX11_ones_20 : decode cX11_ones 20 = .ok (.goto 4, 3) := by decide +kernel
theorem dX11_ones_23 : decode cX11_ones 23 = .ok (.iconst 0, 1) := by decide +kernel
theorem dX11_ones_24 : decode cX11_ones 24 = .ok (.iadd, 1) := by decide +kernel
theorem dX11_ones_25 : decode cX11_ones 25 = .ok (.istore_n 1, 1) := by decide +kernel
theorem dX11_ones_26 : decode cX11_ones 26 = .ok (.iinc 2 1, 3) := by decide +kernel
theorem dX11_ones_29 : decode cX11_ones 29 = .ok (.goto (-25), 3) := by decide +kernel
theorem dX11_ones_32 : decode cX11_ones 32 = .ok (.iload_n 1, 1) := by decide +kernel
theorem dX11_ones_33 : decode cX11_ones 33 = .ok (.ireturn, 1) := by decide +kernel
theorem dX11_node_0 : decode cX11_node 0 = .ok (.iconst 0, 1) := by decide +kernel
theorem dX11_node_1 : decode cX11_node 1 = .ok (.istore 4, 2) := by decide +kernel
theorem dX11_node_3 : decode cX11_node 3 = .ok (.iload 4, 2) := by decide +kernel
theorem dX11_node_5 : decode cX11_node 5 = .ok (.aload_n 0, 1) := by decide +kernel
theorem dX11_node_6 : decode cX11_node 6 = .ok (.getfield 112, 3) := by decide +kernel
theorem dX11_node_9 : decode cX11_node 9 = .ok (.if_icmp .ge 45, 3) := by decide +kernel
theorem dX11_node_12 : decode cX11_node 12 = .ok (.aload_n 0, 1) := by decide +kernel
theorem dX11_node_13 : decode cX11_node 13 = .ok (.getfield 38, 3) := by decide +kernel
theorem dX11_node_16 : decode cX11_node 16 = .ok (.iload 4, 2) := by decide +kernel
theorem dX11_node_18 : decode cX11_node 18 = .ok (.iaload, 1) := by decide +kernel
theorem dX11_node_19 : decode cX11_node 19 = .ok (.iload_n 1, 1) := by decide +kernel
theorem dX11_node_20 : decode cX11_node 20 = .ok (.if_icmp .ne 28, 3) := by decide +kernel
theorem dX11_node_23 : decode cX11_node 23 = .ok (.aload_n 0, 1) := by decide +kernel
theorem dX11_node_24 : decode cX11_node 24 = .ok (.getfield 41, 3) := by decide +kernel
theorem dX11_node_27 : decode cX11_node 27 = .ok (.iload 4, 2) := by decide +kernel
theorem dX11_node_29 : decode cX11_node 29 = .ok (.iaload, 1) := by decide +kernel
theorem dX11_node_30 : decode cX11_node 30 = .ok (.iload_n 2, 1) := by decide +kernel
theorem dX11_node_31 : decode cX11_node 31 = .ok (.if_icmp .ne 17, 3) := by decide +kernel
theorem dX11_node_34 : decode cX11_node 34 = .ok (.aload_n 0, 1) := by decide +kernel
theorem dX11_node_35 : decode cX11_node 35 = .ok (.getfield 44, 3) := by decide +kernel
theorem dX11_node_38 : decode cX11_node 38 = .ok (.iload 4, 2) := by decide +kernel
theorem dX11_node_40 : decode cX11_node 40 = .ok (.iaload, 1) := by decide +kernel
theorem dX11_node_41 : decode cX11_node 41 = .ok (.iload_n 3, 1) := by decide +kernel
theorem dX11_node_42 : decode cX11_node 42 = .ok (.if_icmp .ne 6, 3) := by decide +kernel
theorem dX11_node_45 : decode cX11_node 45 = .ok (.iload 4, 2) := by decide +kernel
theorem dX11_node_47 : decode cX11_node 47 = .ok (.ireturn, 1) := by decide +kernel
theorem dX11_node_48 : decode cX11_node 48 = .ok (.iinc 4 1, 3) := by decide +kernel
theorem dX11_node_51 : decode cX11_node 51 = .ok (.goto (-48), 3) := by decide +kernel
theorem dX11_node_54 : decode cX11_node 54 = .ok (.aload_n 0, 1) := by decide +kernel
theorem dX11_node_55 : decode cX11_node 55 = .ok (.getfield 38, 3) := by decide +kernel
theorem dX11_node_58 : decode cX11_node 58 = .ok (.aload_n 0, 1) := by decide +kernel
theorem dX11_node_59 : decode cX11_node 59 = .ok (.getfield 112, 3) := by decide +kernel
theorem dX11_node_62 : decode cX11_node 62 = .ok (.iload_n 1, 1) := by decide +kernel
theorem dX11_node_63 : decode cX11_node 63 = .ok (.iastore, 1) := by decide +kernel
theorem dX11_node_64 : decode cX11_node 64 = .ok (.aload_n 0, 1) := by decide +kernel
theorem dX11_node_65 : decode cX11_node 65 = .ok (.getfield 41, 3) := by decide +kernel
theorem dX11_node_68 : decode cX11_node 68 = .ok (.aload_n 0, 1) := by decide +kernel
theorem dX11_node_69 : decode cX11_node 69 = .ok (.getfield 112, 3) := by decide +kernel
theorem dX11_node_72 : decode cX11_node 72 = .ok (.iload_n 2, 1) := by decide +kernel
theorem dX11_node_73 : decode cX11_node 73 = .ok (.iastore, 1) := by decide +kernel
theorem dX11_node_74 : decode cX11_node 74 = .ok (.aload_n 0, 1) := by decide +kernel
theorem dX11_node_75 : decode cX11_node 75 = .ok (.getfield 44, 3) := by decide +kernel
theorem dX11_node_78 : decode cX11_node 78 = .ok (.aload_n 0, 1) := by decide +kernel
end
section
theorem dX11_node_79 : decode cX11_node 79 = .ok (.getfield 112, 3) := by decide +kernel
theorem dX11_node_82 : decode cX11_node 82 = .ok (.iload_n 3, 1) := by decide +kernel
theorem dX11_node_83 : decode cX11_node 83 = .ok (.iastore, 1) := by decide +kernel
theorem dX11_node_84 : decode cX11_node 84 = .ok (.aload_n 0, 1) := by decide +kernel
theorem dX11_node_85 : decode cX11_node 85 = .ok (.dup, 1) := by decide +kernel
theorem dX11_node_86 : decode cX11_node 86 = .ok (.getfield 112, 3) := by decide +kernel
theorem dX11_node_89 : decode cX11_node 89 = .ok (.iconst 1, 1) := by decide +kernel
theorem dX11_node_90 : decode cX11_node 90 = .ok (.iadd, 1) := by decide +kernel
theorem dX11_node_91 : decode cX11_node 91 = .ok (.putfield 112, 3) := by decide +kernel
theorem dX11_node_94 : decode cX11_node 94 = .ok (.aload_n 0, 1) := by decide +kernel
theorem dX11_node_95 : decode cX11_node 95 = .ok (.getfield 112, 3) := by decide +kernel
theorem dX11_node_98 : decode cX11_node 98 = .ok (.iconst 1, 1) := by decide +kernel
theorem dX11_node_99 : decode cX11_node 99 = .ok (.isub, 1) := by decide +kernel
theorem dX11_node_100 : decode cX11_node 100 = .ok (.ireturn, 1) := by decide +kernel
theorem dX11_laysConstants_0 : decode cX11_laysConstants 0 = .ok (.aload_n 0, 1) := by decide +kernel
theorem dX11_laysConstants_1 : decode cX11_laysConstants 1 = .ok (.iconst 0, 1) := by decide +kernel
theorem dX11_laysConstants_2 : decode cX11_laysConstants 2 = .ok (.putfield 112, 3) := by decide +kernel
theorem dX11_laysConstants_5 : decode cX11_laysConstants 5 = .ok (.iconst 0, 1) := by decide +kernel
theorem dX11_laysConstants_6 : decode cX11_laysConstants 6 = .ok (.istore_n 1, 1) := by decide +kernel
theorem dX11_laysConstants_7 : decode cX11_laysConstants 7 = .ok (.iload_n 1, 1) := by decide +kernel
theorem dX11_laysConstants_8 : decode cX11_laysConstants 8 = .ok (.iconst 4, 1) := by decide +kernel
theorem dX11_laysConstants_9 : decode cX11_laysConstants 9 = .ok (.if_icmp .ge 19, 3) := by decide +kernel
theorem dX11_laysConstants_12 : decode cX11_laysConstants 12 = .ok (.aload_n 0, 1) := by decide +kernel
theorem dX11_laysConstants_13 : decode cX11_laysConstants 13 = .ok (.iload_n 1, 1) := by decide +kernel
theorem dX11_laysConstants_14 : decode cX11_laysConstants 14 = .ok (.bipush (-9), 2) := by decide +kernel
theorem dX11_laysConstants_16 : decode cX11_laysConstants 16 = .ok (.bipush (-9), 2) := by decide +kernel
theorem dX11_laysConstants_18 : decode cX11_laysConstants 18 = .ok (.invokevirtual 115, 3) := by decide +kernel
theorem dX11_laysConstants_21 : decode cX11_laysConstants 21 = .ok (.pop, 1) := by decide +kernel
theorem dX11_laysConstants_22 : decode cX11_laysConstants 22 = .ok (.iinc 1 1, 3) := by decide +kernel
theorem dX11_laysConstants_25 : decode cX11_laysConstants 25 = .ok (.goto (-18), 3) := by decide +kernel
theorem dX11_laysConstants_28 : decode cX11_laysConstants 28 = .ok (.aload_n 0, 1) := by decide +kernel
theorem dX11_laysConstants_29 : decode cX11_laysConstants 29 = .ok (.iconst 4, 1) := by decide +kernel
theorem dX11_laysConstants_30 : decode cX11_laysConstants 30 = .ok (.putfield 119, 3) := by decide +kernel
theorem dX11_laysConstants_33 : decode cX11_laysConstants 33 = .ok (.return_, 1) := by decide +kernel
theorem dX11_depth_0 : decode cX11_depth 0 = .ok (.iconst 0, 1) := by decide +kernel
theorem dX11_depth_1 : decode cX11_depth 1 = .ok (.istore_n 2, 1) := by decide +kernel
theorem dX11_depth_2 : decode cX11_depth 2 = .ok (.iconst 0, 1) := by decide +kernel
theorem dX11_depth_3 : decode cX11_depth 3 = .ok (.istore_n 3, 1) := by decide +kernel
theorem dX11_depth_4 : decode cX11_depth 4 = .ok (.iconst 1, 1) := by decide +kernel
theorem dX11_depth_5 : decode cX11_depth 5 = .ok (.istore 4, 2) := by decide +kernel
theorem dX11_depth_7 : decode cX11_depth 7 = .ok (.aload_n 0, 1) := by decide +kernel
theorem dX11_depth_8 : decode cX11_depth 8 = .ok (.getfield 47, 3) := by decide +kernel
theorem dX11_depth_11 : decode cX11_depth 11 = .ok (.iconst 0, 1) := by decide +kernel
theorem dX11_depth_12 : decode cX11_depth 12 = .ok (.iload_n 1, 1) := by decide +kernel
theorem dX11_depth_13 : decode cX11_depth 13 = .ok (.iastore, 1) := by decide +kernel
theorem dX11_depth_14 : decode cX11_depth 14 = .ok (.aload_n 0, 1) := by decide +kernel
theorem dX11_depth_15 : decode cX11_depth 15 = .ok (.getfield 50, 3) := by decide +kernel
theorem dX11_depth_18 : decode cX11_depth 18 = .ok (.iconst 0, 1) := by decide +kernel
theorem dX11_depth_19 : decode cX11_depth 19 = .ok (.iconst 0, 1) := by decide +kernel
theorem dX11_depth_20 : decode cX11_depth 20 = .ok (.iastore, 1) := by decide +kernel
theorem dX11_depth_21 : decode cX11_depth 21 = .ok (.iload 4, 2) := by decide +kernel
theorem dX11_depth_23 : decode cX11_depth 23 = .ok (.ifCond .le 113, 3) := by decide +kernel
theorem dX11_depth_26 : decode cX11_depth 26 = .ok (.iinc 4 (-1), 3) := by decide +kernel
theorem dX11_depth_29 : decode cX11_depth 29 = .ok (.aload_n 0, 1) := by decide +kernel
theorem dX11_depth_30 : decode cX11_depth 30 = .ok (.getfield 47, 3) := by decide +kernel
theorem dX11_depth_33 : decode cX11_depth 33 = .ok (.iload 4, 2) := by decide +kernel
theorem dX11_depth_35 : decode cX11_depth 35 = .ok (.iaload, 1) := by decide +kernel
theorem dX11_depth_36 : decode cX11_depth 36 = .ok (.istore 5, 2) := by decide +kernel
theorem dX11_depth_38 : decode cX11_depth 38 = .ok (.aload_n 0, 1) := by decide +kernel
theorem dX11_depth_39 : decode cX11_depth 39 = .ok (.getfield 50, 3) := by decide +kernel
theorem dX11_depth_42 : decode cX11_depth 42 = .ok (.iload 4, 2) := by decide +kernel
theorem dX11_depth_44 : decode cX11_depth 44 = .ok (.iaload, 1) := by decide +kernel
theorem dX11_depth_45 : decode cX11_depth 45 = .ok (.istore_n 2, 1) := by decide +kernel
theorem dX11_depth_46 : decode cX11_depth 46 = .ok (.iload_n 2, 1) := by decide +kernel
theorem dX11_depth_47 : decode cX11_depth 47 = .ok (.iload_n 3, 1) := by decide +kernel
theorem dX11_depth_48 : decode cX11_depth 48 = .ok (.if_icmp .le 7, 3) := by decide +kernel
theorem dX11_depth_51 : decode cX11_depth 51 = .ok (.iload_n 2, 1) := by decide +kernel
theorem dX11_depth_52 : decode cX11_depth 52 = .ok (.goto 4, 3) := by decide +kernel
theorem dX11_depth_55 : decode cX11_depth 55 = .ok (.iload_n 3, 1) := by decide +kernel
theorem dX11_depth_56 : decode cX11_depth 56 = .ok (.istore_n 3, 1) := by decide +kernel
theorem dX11_depth_57 : decode cX11_depth 57 = .ok (.aload_n 0, 1) := by decide +kernel
theorem dX11_depth_58 : decode cX11_depth 58 = .ok (.getfield 38, 3) := by decide +kernel
theorem dX11_depth_61 : decode cX11_depth 61 = .ok (.iload 5, 2) := by decide +kernel
theorem dX11_depth_63 : decode cX11_depth 63 = .ok (.iaload, 1) := by decide +kernel
theorem dX11_depth_64 : decode cX11_depth 64 = .ok (.iconst 5, 1) := by decide +kernel
theorem dX11_depth_65 : decode cX11_depth 65 = .ok (.if_icmp .ne 30, 3) := by decide +kernel
theorem dX11_depth_68 : decode cX11_depth 68 = .ok (.aload_n 0, 1) := by decide +kernel
theorem dX11_depth_69 : decode cX11_depth 69 = .ok (.getfield 47, 3) := by decide +kernel
theorem dX11_depth_72 : decode cX11_depth 72 = .ok (.iload 4, 2) := by decide +kernel
theorem dX11_depth_74 : decode cX11_depth 74 = .ok (.aload_n 0, 1) := by decide +kernel
theorem dX11_depth_75 : decode cX11_depth 75 = .ok (.getfield 44, 3) := by decide +kernel
theorem dX11_depth_78 : decode cX11_depth 78 = .ok (.iload 5, 2) := by decide +kernel
theorem dX11_depth_80 : decode cX11_depth 80 = .ok (.iaload, 1) := by decide +kernel
theorem dX11_depth_81 : decode cX11_depth 81 = .ok (.iastore, 1) := by decide +kernel
theorem dX11_depth_82 : decode cX11_depth 82 = .ok (.aload_n 0, 1) := by decide +kernel
theorem dX11_depth_83 : decode cX11_depth 83 = .ok (.getfield 50, 3) := by decide +kernel
theorem dX11_depth_86 : decode cX11_depth 86 = .ok (.iload 4, 2) := by decide +kernel
theorem dX11_depth_88 : decode cX11_depth 88 = .ok (.iload_n 2, 1) := by decide +kernel
theorem dX11_depth_89 : decode cX11_depth 89 = .ok (.iconst 1, 1) := by decide +kernel
theorem dX11_depth_90 : decode cX11_depth 90 = .ok (.iadd, 1) := by decide +kernel
theorem dX11_depth_91 : decode cX11_depth 91 = .ok (.iastore, 1) := by decide +kernel
theorem dX11_depth_92 : decode cX11_depth 92 = .ok (.iinc 4 1, 3) := by decide +kernel
theorem dX11_depth_95 : decode cX11_depth 95 = .ok (.aload_n 0, 1) := by decide +kernel
theorem dX11_depth_96 : decode cX11_depth 96 = .ok (.getfield 38, 3) := by decide +kernel
theorem dX11_depth_99 : decode cX11_depth 99 = .ok (.iload 5, 2) := by decide +kernel
theorem dX11_depth_101 : decode cX11_depth 101 = .ok (.iaload, 1) := by decide +kernel
theorem dX11_depth_102 : decode cX11_depth 102 = .ok (.iconst 4, 1) := by decide +kernel
theorem dX11_depth_103 : decode cX11_depth 103 = .ok (.if_icmp .lt 30, 3) := by decide +kernel
theorem dX11_depth_106 : decode cX11_depth 106 = .ok (.aload_n 0, 1) := by decide +kernel
theorem dX11_depth_107 : decode cX11_depth 107 = .ok (.getfield 47, 3) := by decide +kernel
theorem dX11_depth_110 : decode cX11_depth 110 = .ok (.iload 4, 2) := by decide +kernel
theorem dX11_depth_112 : decode cX11_depth 112 = .ok (.aload_n 0, 1) := by decide +kernel
theorem dX11_depth_113 : decode cX11_depth 113 = .ok (.getfield 41, 3) := by decide +kernel
theorem dX11_depth_116 : decode cX11_depth 116 = .ok (.iload 5, 2) := by decide +kernel
theorem dX11_depth_118 : decode cX11_depth 118 = .ok (.iaload, 1) := by decide +kernel
theorem dX11_depth_119 : decode cX11_depth 119 = .ok (.iastore, 1) := by decide +kernel
theorem dX11_depth_120 : decode cX11_depth 120 = .ok (.aload_n 0, 1) := by decide +kernel
theorem dX11_depth_121 : decode cX11_depth 121 = .ok (.getfield 50, 3) := by decide +kernel
theorem dX11_depth_124 : decode cX11_depth 124 = .ok (.iload 4, 2) := by decide +kernel
theorem dX11_depth_126 : decode cX11_depth 126 = .ok (.iload_n 2, 1) := by decide +kernel
theorem dX11_depth_127 : decode cX11_depth 127 = .ok (.iconst 1, 1) := by decide +kernel
theorem dX11_depth_128 : decode cX11_depth 128 = .ok (.iadd, 1) := by decide +kernel
theorem dX11_depth_129 : decode cX11_depth 129 = .ok (.iastore, 1) := by decide +kernel
theorem dX11_depth_130 : decode cX11_depth 130 = .ok (.iinc 4 1, 3) := by decide +kernel
theorem dX11_depth_133 : decode cX11_depth 133 = .ok (.goto (-112), 3) := by decide +kernel
theorem dX11_depth_136 : decode cX11_depth 136 = .ok (.iload_n 3, 1) := by decide +kernel
theorem dX11_depth_137 : decode cX11_depth 137 = .ok (.ireturn, 1) := by decide +kernel
theorem dX11_partOf_0 : decode cX11_partOf 0 = .ok (.iconst 1, 1) := by decide +kernel
theorem dX11_partOf_1 : decode cX11_partOf 1 = .ok (.istore_n 3, 1) := by decide +kernel
theorem dX11_partOf_2 : decode cX11_partOf 2 = .ok (.iconst 0, 1) := by decide +kernel
theorem dX11_partOf_3 : decode cX11_partOf 3 = .ok (.istore 4, 2) := by decide +kernel
theorem dX11_partOf_5 : decode cX11_partOf 5 = .ok (.aload_n 0, 1) := by decide +kernel
theorem dX11_partOf_6 : decode cX11_partOf 6 = .ok (.getfield 47, 3) := by decide +kernel
theorem dX11_partOf_9 : decode cX11_partOf 9 = .ok (.iconst 0, 1) := by decide +kernel
theorem dX11_partOf_10 : decode cX11_partOf 10 = .ok (.iload_n 1, 1) := by decide +kernel
theorem dX11_partOf_11 : decode cX11_partOf 11 = .ok (.iastore, 1) := by decide +kernel
theorem dX11_partOf_12 : decode cX11_partOf 12 = .ok (.iload_n 3, 1) := by decide +kernel
theorem dX11_partOf_13 : decode cX11_partOf 13 = .ok (.ifCond .le 83, 3) := by decide +kernel
theorem dX11_partOf_16 : decode cX11_partOf 16 = .ok (.iinc 3 (-1), 3) := by decide +kernel
theorem dX11_partOf_19 : decode cX11_partOf 19 = .ok (.aload_n 0, 1) := by decide +kernel
theorem dX11_partOf_20 : decode cX11_partOf 20 = .ok (.getfield 47, 3) := by decide +kernel
theorem dX11_partOf_23 : decode cX11_partOf 23 = .ok (.iload_n 3, 1) := by decide +kernel
theorem dX11_partOf_24 : decode cX11_partOf 24 = .ok (.iaload, 1) := by decide +kernel
theorem dX11_partOf_25 : decode cX11_partOf 25 = .ok (.istore 5, 2) := by decide +kernel
theorem dX11_partOf_27 : decode cX11_partOf 27 = .ok (.iload 4, 2) := by decide +kernel
theorem dX11_partOf_29 : decode cX11_partOf 29 = .ok (.iload_n 2, 1) := by decide +kernel
theorem dX11_partOf_30 : decode cX11_partOf 30 = .ok (.if_icmp .ne 6, 3) := by decide +kernel
theorem dX11_partOf_33 : decode cX11_partOf 33 = .ok (.iload 5, 2) := by decide +kernel
theorem dX11_partOf_35 : decode cX11_partOf 35 = .ok (.ireturn, 1) := by decide +kernel
theorem dX11_partOf_36 : decode cX11_partOf 36 = .ok (.iinc 4 1, 3) := by decide +kernel
theorem dX11_partOf_39 : decode cX11_partOf 39 = .ok (.aload_n 0, 1) := by decide +kernel
theorem dX11_partOf_40 : decode cX11_partOf 40 = .ok (.getfield 38, 3) := by decide +kernel
theorem dX11_partOf_43 : decode cX11_partOf 43 = .ok (.iload 5, 2) := by decide +kernel
theorem dX11_partOf_45 : decode cX11_partOf 45 = .ok (.iaload, 1) := by decide +kernel
theorem dX11_partOf_46 : decode cX11_partOf 46 = .ok (.iconst 5, 1) := by decide +kernel
theorem dX11_partOf_47 : decode cX11_partOf 47 = .ok (.if_icmp .ne 19, 3) := by decide +kernel
theorem dX11_partOf_50 : decode cX11_partOf 50 = .ok (.aload_n 0, 1) := by decide +kernel
theorem dX11_partOf_51 : decode cX11_partOf 51 = .ok (.getfield 47, 3) := by decide +kernel
theorem dX11_partOf_54 : decode cX11_partOf 54 = .ok (.iload_n 3, 1) := by decide +kernel
theorem dX11_partOf_55 : decode cX11_partOf 55 = .ok (.aload_n 0, 1) := by decide +kernel
theorem dX11_partOf_56 : decode cX11_partOf 56 = .ok (.getfield 44, 3) := by decide +kernel
theorem dX11_partOf_59 : decode cX11_partOf 59 = .ok (.iload 5, 2) := by decide +kernel
theorem dX11_partOf_61 : decode cX11_partOf 61 = .ok (.iaload, 1) := by decide +kernel
theorem dX11_partOf_62 : decode cX11_partOf 62 = .ok (.iastore, 1) := by decide +kernel
theorem dX11_partOf_63 : decode cX11_partOf 63 = .ok (.iinc 3 1, 3) := by decide +kernel
theorem dX11_partOf_66 : decode cX11_partOf 66 = .ok (.aload_n 0, 1) := by decide +kernel
theorem dX11_partOf_67 : decode cX11_partOf 67 = .ok (.getfield 38, 3) := by decide +kernel
theorem dX11_partOf_70 : decode cX11_partOf 70 = .ok (.iload 5, 2) := by decide +kernel
theorem dX11_partOf_72 : decode cX11_partOf 72 = .ok (.iaload, 1) := by decide +kernel
theorem dX11_partOf_73 : decode cX11_partOf 73 = .ok (.iconst 4, 1) := by decide +kernel
theorem dX11_partOf_74 : decode cX11_partOf 74 = .ok (.if_icmp .lt 19, 3) := by decide +kernel
theorem dX11_partOf_77 : decode cX11_partOf 77 = .ok (.aload_n 0, 1) := by decide +kernel
theorem dX11_partOf_78 : decode cX11_partOf 78 = .ok (.getfield 47, 3) := by decide +kernel
theorem dX11_partOf_81 : decode cX11_partOf 81 = .ok (.iload_n 3, 1) := by decide +kernel
theorem dX11_partOf_82 : decode cX11_partOf 82 = .ok (.aload_n 0, 1) := by decide +kernel
theorem dX11_partOf_83 : decode cX11_partOf 83 = .ok (.getfield 41, 3) := by decide +kernel
theorem dX11_partOf_86 : decode cX11_partOf 86 = .ok (.iload 5, 2) := by decide +kernel
theorem dX11_partOf_88 : decode cX11_partOf 88 = .ok (.iaload, 1) := by decide +kernel
theorem dX11_partOf_89 : decode cX11_partOf 89 = .ok (.iastore, 1) := by decide +kernel
theorem dX11_partOf_90 : decode cX11_partOf 90 = .ok (.iinc 3 1, 3) := by decide +kernel
theorem dX11_partOf_93 : decode cX11_partOf 93 = .ok (.goto (-81), 3) := by decide +kernel
theorem dX11_partOf_96 : decode cX11_partOf 96 = .ok (.bipush (-9), 2) := by decide +kernel
theorem dX11_partOf_98 : decode cX11_partOf 98 = .ok (.ireturn, 1) := by decide +kernel
theorem dX11_type_0 : decode cX11_type 0 = .ok (.aload_n 0, 1) := by decide +kernel
theorem dX11_type_1 : decode cX11_type 1 = .ok (.iconst 0, 1) := by decide +kernel
theorem dX11_type_2 : decode cX11_type 2 = .ok (.putfield 104, 3) := by decide +kernel
theorem dX11_type_5 : decode cX11_type 5 = .ok (.iload_n 1, 1) := by decide +kernel
theorem dX11_type_6 : decode cX11_type 6 = .ok (.iconst 0, 1) := by decide +kernel
theorem dX11_type_7 : decode cX11_type 7 = .ok (.sipush 255, 3) := by decide +kernel
theorem dX11_type_10 : decode cX11_type 10 = .ok (.invokestatic 122, 3) := by decide +kernel
theorem dX11_type_13 : decode cX11_type 13 = .ok (.ifCond .ne 5, 3) := by decide +kernel
theorem dX11_type_16 : decode cX11_type 16 = .ok (.iconst (-1), 1) := by decide +kernel
theorem dX11_type_17 : decode cX11_type 17 = .ok (.ireturn, 1) := by decide +kernel
theorem dX11_type_18 : decode cX11_type 18 = .ok (.aload_n 0, 1) := by decide +kernel
theorem dX11_type_19 : decode cX11_type 19 = .ok (.getfield 126, 3) := by decide +kernel
theorem dX11_type_22 : decode cX11_type 22 = .ok (.bipush 100, 2) := by decide +kernel
theorem dX11_type_24 : decode cX11_type 24 = .ok (.if_icmp .ne 6, 3) := by decide +kernel
theorem dX11_type_27 : decode cX11_type 27 = .ok (.bipush (-3), 2) := by decide +kernel
theorem dX11_type_29 : decode cX11_type 29 = .ok (.ireturn, 1) := by decide +kernel
theorem dX11_type_30 : decode cX11_type 30 = .ok (.aload_n 0, 1) := by decide +kernel
theorem dX11_type_31 : decode cX11_type 31 = .ok (.getfield 53, 3) := by decide +kernel
theorem dX11_type_34 : decode cX11_type 34 = .ok (.aload_n 0, 1) := by decide +kernel
theorem dX11_type_35 : decode cX11_type 35 = .ok (.getfield 126, 3) := by decide +kernel
theorem dX11_type_38 : decode cX11_type 38 = .ok (.iload_n 1, 1) := by decide +kernel
theorem dX11_type_39 : decode cX11_type 39 = .ok (.iastore, 1) := by decide +kernel
theorem dX11_type_40 : decode cX11_type 40 = .ok (.aload_n 0, 1) := by decide +kernel
theorem dX11_type_41 : decode cX11_type 41 = .ok (.dup, 1) := by decide +kernel
theorem dX11_type_42 : decode cX11_type 42 = .ok (.getfield 126, 3) := by decide +kernel
theorem dX11_type_45 : decode cX11_type 45 = .ok (.iconst 1, 1) := by decide +kernel
theorem dX11_type_46 : decode cX11_type 46 = .ok (.iadd, 1) := by decide +kernel
theorem dX11_type_47 : decode cX11_type 47 = .ok (.putfield 126, 3) := by decide +kernel
theorem dX11_type_50 : decode cX11_type 50 = .ok (.aload_n 0, 1) := by decide +kernel
theorem dX11_type_51 : decode cX11_type 51 = .ok (.getfield 126, 3) := by decide +kernel
theorem dX11_type_54 : decode cX11_type 54 = .ok (.ireturn, 1) := by decide +kernel
theorem dX11_clear_0 : decode cX11_clear 0 = .ok (.aload_n 0, 1) := by decide +kernel
theorem dX11_clear_1 : decode cX11_clear 1 = .ok (.iconst 0, 1) := by decide +kernel
theorem dX11_clear_2 : decode cX11_clear 2 = .ok (.putfield 104, 3) := by decide +kernel
theorem dX11_clear_5 : decode cX11_clear 5 = .ok (.aload_n 0, 1) := by decide +kernel
theorem dX11_clear_6 : decode cX11_clear 6 = .ok (.getfield 126, 3) := by decide +kernel
theorem dX11_clear_9 : decode cX11_clear 9 = .ok (.istore_n 1, 1) := by decide +kernel
theorem dX11_clear_10 : decode cX11_clear 10 = .ok (.aload_n 0, 1) := by decide +kernel
theorem dX11_clear_11 : decode cX11_clear 11 = .ok (.iconst 0, 1) := by decide +kernel
theorem dX11_clear_12 : decode cX11_clear 12 = .ok (.putfield 126, 3) := by decide +kernel
theorem dX11_clear_15 : decode cX11_clear 15 = .ok (.iload_n 1, 1) := by decide +kernel
theorem dX11_clear_16 : decode cX11_clear 16 = .ok (.ireturn, 1) := by decide +kernel
theorem dX11_takes_0 : decode cX11_takes 0 = .ok (.aload_n 0, 1) := by decide +kernel
theorem dX11_takes_1 : decode cX11_takes 1 = .ok (.getfield 129, 3) := by decide +kernel
theorem dX11_takes_4 : decode cX11_takes 4 = .ok (.aload_n 0, 1) := by decide +kernel
theorem dX11_takes_5 : decode cX11_takes 5 = .ok (.getfield 126, 3) := by decide +kernel
theorem dX11_takes_8 : decode cX11_takes 8 = .ok (.if_icmp .ge 30, 3) := by decide +kernel
theorem dX11_takes_11 : decode cX11_takes 11 = .ok (.aload_n 0, 1) := by decide +kernel
theorem dX11_takes_12 : decode cX11_takes 12 = .ok (.getfield 53, 3) := by decide +kernel
theorem dX11_takes_15 : decode cX11_takes 15 = .ok (.aload_n 0, 1) := by decide +kernel
theorem dX11_takes_16 : decode cX11_takes 16 = .ok (.getfield 129, 3) := by decide +kernel
theorem dX11_takes_19 : decode cX11_takes 19 = .ok (.iaload, 1) := by decide +kernel
theorem dX11_takes_20 : decode cX11_takes 20 = .ok (.bipush 32, 2) := by decide +kernel
theorem dX11_takes_22 : decode cX11_takes 22 = .ok (.if_icmp .ne 16, 3) := by decide +kernel
theorem dX11_takes_25 : decode cX11_takes 25 = .ok (.aload_n 0, 1) := by decide +kernel
theorem dX11_takes_26 : decode cX11_takes 26 = .ok (.dup, 1) := by decide +kernel
theorem dX11_takes_27 : decode cX11_takes 27 = .ok (.getfield 129, 3) := by decide +kernel
theorem dX11_takes_30 : decode cX11_takes 30 = .ok (.iconst 1, 1) := by decide +kernel
theorem dX11_takes_31 : decode cX11_takes 31 = .ok (.iadd, 1) := by decide +kernel
theorem dX11_takes_32 : decode cX11_takes 32 = .ok (.putfield 129, 3) := by decide +kernel
theorem dX11_takes_35 : decode cX11_takes 35 = .ok (.goto (-35), 3) := by decide +kernel
theorem dX11_takes_38 : decode cX11_takes 38 = .ok (.aload_n 0, 1) := by decide +kernel
theorem dX11_takes_39 : decode cX11_takes 39 = .ok (.aload_n 0, 1) := by decide +kernel
theorem dX11_takes_40 : decode cX11_takes 40 = .ok (.getfield 129, 3) := by decide +kernel
theorem dX11_takes_43 : decode cX11_takes 43 = .ok (.putfield 132, 3) := by decide +kernel
theorem dX11_takes_46 : decode cX11_takes 46 = .ok (.aload_n 0, 1) := by decide +kernel
theorem dX11_takes_47 : decode cX11_takes 47 = .ok (.aload_n 0, 1) := by decide +kernel
theorem dX11_takes_48 : decode cX11_takes 48 = .ok (.getfield 129, 3) := by decide +kernel
theorem dX11_takes_51 : decode cX11_takes 51 = .ok (.aload_n 0, 1) := by decide +kernel
theorem dX11_takes_52 : decode cX11_takes 52 = .ok (.getfield 126, 3) := by decide +kernel
theorem dX11_takes_55 : decode cX11_takes 55 = .ok (.if_icmp .ge 15, 3) := by decide +kernel
theorem dX11_takes_58 : decode cX11_takes 58 = .ok (.aload_n 0, 1) := by decide +kernel
theorem dX11_takes_59 : decode cX11_takes 59 = .ok (.getfield 53, 3) := by decide +kernel
theorem dX11_takes_62 : decode cX11_takes 62 = .ok (.aload_n 0, 1) := by decide +kernel
theorem dX11_takes_63 : decode cX11_takes 63 = .ok (.getfield 129, 3) := by decide +kernel
theorem dX11_takes_66 : decode cX11_takes 66 = .ok (.iaload, 1) := by decide +kernel
theorem dX11_takes_67 : decode cX11_takes 67 = .ok (.goto 4, 3) := by decide +kernel
theorem dX11_takes_70 : decode cX11_takes 70 = .ok (.iconst (-1), 1) := by decide +kernel
theorem dX11_takes_71 : decode cX11_takes 71 = .ok (.putfield 135, 3) := by decide +kernel
theorem dX11_takes_74 : decode cX11_takes 74 = .ok (.aload_n 0, 1) := by decide +kernel
theorem dX11_takes_75 : decode cX11_takes 75 = .ok (.dup, 1) := by decide +kernel
theorem dX11_takes_76 : decode cX11_takes 76 = .ok (.getfield 129, 3) := by decide +kernel
theorem dX11_takes_79 : decode cX11_takes 79 = .ok (.aload_n 0, 1) := by decide +kernel
theorem dX11_takes_80 : decode cX11_takes 80 = .ok (.getfield 129, 3) := by decide +kernel
theorem dX11_takes_83 : decode cX11_takes 83 = .ok (.aload_n 0, 1) := by decide +kernel
theorem dX11_takes_84 : decode cX11_takes 84 = .ok (.getfield 126, 3) := by decide +kernel
theorem dX11_takes_87 : decode cX11_takes 87 = .ok (.if_icmp .ge 7, 3) := by decide +kernel
theorem dX11_takes_90 : decode cX11_takes 90 = .ok (.iconst 1, 1) := by decide +kernel
theorem dX11_takes_91 : decode cX11_takes 91 = .ok (.goto 4, 3) := by decide +kernel
theorem dX11_takes_94 : decode cX11_takes 94 = .ok (.iconst 0, 1) := by decide +kernel
theorem dX11_takes_95 : decode cX11_takes 95 = .ok (.iadd, 1) := by decide +kernel
theorem dX11_takes_96 : decode cX11_takes 96 = .ok (.putfield 129, 3) := by decide +kernel
theorem dX11_takes_99 : decode cX11_takes 99 = .ok (.return_, 1) := by decide +kernel
theorem dX11_readsTerm_0 : decode cX11_readsTerm 0 = .ok (.iconst 0, 1) := by decide +kernel
theorem dX11_readsTerm_1 : decode cX11_readsTerm 1 = .ok (.istore_n 1, 1) := by decide +kernel
theorem dX11_readsTerm_2 : decode cX11_readsTerm 2 = .ok (.bipush (-9), 2) := by decide +kernel
theorem dX11_readsTerm_4 : decode cX11_readsTerm 4 = .ok (.istore_n 2, 1) := by decide +kernel
theorem dX11_readsTerm_5 : decode cX11_readsTerm 5 = .ok (.iconst 0, 1) := by decide +kernel
theorem dX11_readsTerm_6 : decode cX11_readsTerm 6 = .ok (.istore_n 3, 1) := by decide +kernel
theorem dX11_readsTerm_7 : decode cX11_readsTerm 7 = .ok (.iload_n 2, 1) := by decide +kernel
theorem dX11_readsTerm_8 : decode cX11_readsTerm 8 = .ok (.bipush (-9), 2) := by decide +kernel
theorem dX11_readsTerm_10 : decode cX11_readsTerm 10 = .ok (.if_icmp .ne 216, 3) := by decide +kernel
theorem dX11_readsTerm_13 : decode cX11_readsTerm 13 = .ok (.iload_n 3, 1) := by decide +kernel
theorem dX11_readsTerm_14 : decode cX11_readsTerm 14 = .ok (.ifCond .ne 212, 3) := by decide +kernel
theorem dX11_readsTerm_17 : decode cX11_readsTerm 17 = .ok (.aload_n 0, 1) := by decide +kernel
theorem dX11_readsTerm_18 : decode cX11_readsTerm 18 = .ok (.invokevirtual 138, 3) := by decide +kernel
theorem dX11_readsTerm_21 : decode cX11_readsTerm 21 = .ok (.aload_n 0, 1) := by decide +kernel
theorem dX11_readsTerm_22 : decode cX11_readsTerm 22 = .ok (.getfield 135, 3) := by decide +kernel
theorem dX11_readsTerm_25 : decode cX11_readsTerm 25 = .ok (.bipush 102, 2) := by decide +kernel
theorem dX11_readsTerm_27 : decode cX11_readsTerm 27 = .ok (.if_icmp .eq 12, 3) := by decide +kernel
theorem dX11_readsTerm_30 : decode cX11_readsTerm 30 = .ok (.aload_n 0, 1) := by decide +kernel
theorem dX11_readsTerm_31 : decode cX11_readsTerm 31 = .ok (.getfield 135, 3) := by decide +kernel
theorem dX11_readsTerm_34 : decode cX11_readsTerm 34 = .ok (.bipush 103, 2) := by decide +kernel
theorem dX11_readsTerm_36 : decode cX11_readsTerm 36 = .ok (.if_icmp .ne 42, 3) := by decide +kernel
theorem dX11_readsTerm_39 : decode cX11_readsTerm 39 = .ok (.iload_n 1, 1) := by decide +kernel
theorem dX11_readsTerm_40 : decode cX11_readsTerm 40 = .ok (.iconst 4, 1) := by decide +kernel
theorem dX11_readsTerm_41 : decode cX11_readsTerm 41 = .ok (.if_icmp .ge 37, 3) := by decide +kernel
theorem dX11_readsTerm_44 : decode cX11_readsTerm 44 = .ok (.aload_n 0, 1) := by decide +kernel
theorem dX11_readsTerm_45 : decode cX11_readsTerm 45 = .ok (.getfield 68, 3) := by decide +kernel
theorem dX11_readsTerm_48 : decode cX11_readsTerm 48 = .ok (.iload_n 1, 1) := by decide +kernel
theorem dX11_readsTerm_49 : decode cX11_readsTerm 49 = .ok (.aload_n 0, 1) := by decide +kernel
theorem dX11_readsTerm_50 : decode cX11_readsTerm 50 = .ok (.getfield 135, 3) := by decide +kernel
theorem dX11_readsTerm_53 : decode cX11_readsTerm 53 = .ok (.bipush 102, 2) := by decide +kernel
theorem dX11_readsTerm_55 : decode cX11_readsTerm 55 = .ok (.if_icmp .ne 7, 3) := by decide +kernel
theorem dX11_readsTerm_58 : decode cX11_readsTerm 58 = .ok (.iconst 4, 1) := by decide +kernel
theorem dX11_readsTerm_59 : decode cX11_readsTerm 59 = .ok (.goto 4, 3) := by decide +kernel
theorem dX11_readsTerm_62 : decode cX11_readsTerm 62 = .ok (.iconst 5, 1) := by decide +kernel
theorem dX11_readsTerm_63 : decode cX11_readsTerm 63 = .ok (.iastore, 1) := by decide +kernel
theorem dX11_readsTerm_64 : decode cX11_readsTerm 64 = .ok (.aload_n 0, 1) := by decide +kernel
theorem dX11_readsTerm_65 : decode cX11_readsTerm 65 = .ok (.getfield 71, 3) := by decide +kernel
theorem dX11_readsTerm_68 : decode cX11_readsTerm 68 = .ok (.iload_n 1, 1) := by decide +kernel
theorem dX11_readsTerm_69 : decode cX11_readsTerm 69 = .ok (.bipush (-9), 2) := by decide +kernel
theorem dX11_readsTerm_71 : decode cX11_readsTerm 71 = .ok (.iastore, 1) := by decide +kernel
theorem dX11_readsTerm_72 : decode cX11_readsTerm 72 = .ok (.iinc 1 1, 3) := by decide +kernel
theorem dX11_readsTerm_75 : decode cX11_readsTerm 75 = .ok (.goto (-68), 3) := by decide +kernel
theorem dX11_readsTerm_78 : decode cX11_readsTerm 78 = .ok (.aload_n 0, 1) := by decide +kernel
theorem dX11_readsTerm_79 : decode cX11_readsTerm 79 = .ok (.getfield 135, 3) := by decide +kernel
theorem dX11_readsTerm_82 : decode cX11_readsTerm 82 = .ok (.bipush 97, 2) := by decide +kernel
theorem dX11_readsTerm_84 : decode cX11_readsTerm 84 = .ok (.bipush 100, 2) := by decide +kernel
theorem dX11_readsTerm_86 : decode cX11_readsTerm 86 = .ok (.invokestatic 122, 3) := by decide +kernel
theorem dX11_readsTerm_89 : decode cX11_readsTerm 89 = .ok (.ifCond .eq 132, 3) := by decide +kernel
theorem dX11_readsTerm_92 : decode cX11_readsTerm 92 = .ok (.aload_n 0, 1) := by decide +kernel
theorem dX11_readsTerm_93 : decode cX11_readsTerm 93 = .ok (.aload_n 0, 1) := by decide +kernel
theorem dX11_readsTerm_94 : decode cX11_readsTerm 94 = .ok (.getfield 135, 3) := by decide +kernel
theorem dX11_readsTerm_97 : decode cX11_readsTerm 97 = .ok (.bipush 97, 2) := by decide +kernel
theorem dX11_readsTerm_99 : decode cX11_readsTerm 99 = .ok (.isub, 1) := by decide +kernel
theorem dX11_readsTerm_100 : decode cX11_readsTerm 100 = .ok (.bipush (-9), 2) := by decide +kernel
theorem dX11_readsTerm_102 : decode cX11_readsTerm 102 = .ok (.bipush (-9), 2) := by decide +kernel
theorem dX11_readsTerm_104 : decode cX11_readsTerm 104 = .ok (.invokevirtual 115, 3) := by decide +kernel
theorem dX11_readsTerm_107 : decode cX11_readsTerm 107 = .ok (.istore 4, 2) := by decide +kernel
theorem dX11_readsTerm_109 : decode cX11_readsTerm 109 = .ok (.iconst 1, 1) := by decide +kernel
theorem dX11_readsTerm_110 : decode cX11_readsTerm 110 = .ok (.istore 5, 2) := by decide +kernel
theorem dX11_readsTerm_112 : decode cX11_readsTerm 112 = .ok (.iload_n 1, 1) := by decide +kernel
theorem dX11_readsTerm_113 : decode cX11_readsTerm 113 = .ok (.ifCond .le 92, 3) := by decide +kernel
theorem dX11_readsTerm_116 : decode cX11_readsTerm 116 = .ok (.iload 5, 2) := by decide +kernel
theorem dX11_readsTerm_118 : decode cX11_readsTerm 118 = .ok (.ifCond .eq 87, 3) := by decide +kernel
theorem dX11_readsTerm_121 : decode cX11_readsTerm 121 = .ok (.aload_n 0, 1) := by decide +kernel
theorem dX11_readsTerm_122 : decode cX11_readsTerm 122 = .ok (.getfield 68, 3) := by decide +kernel
theorem dX11_readsTerm_125 : decode cX11_readsTerm 125 = .ok (.iload_n 1, 1) := by decide +kernel
theorem dX11_readsTerm_126 : decode cX11_readsTerm 126 = .ok (.iconst 1, 1) := by decide +kernel
theorem dX11_readsTerm_127 : decode cX11_readsTerm 127 = .ok (.isub, 1) := by decide +kernel
theorem dX11_readsTerm_128 : decode cX11_readsTerm 128 = .ok (.iaload, 1) := by decide +kernel
theorem dX11_readsTerm_129 : decode cX11_readsTerm 129 = .ok (.iconst 5, 1) := by decide +kernel
theorem dX11_readsTerm_130 : decode cX11_readsTerm 130 = .ok (.if_icmp .ne 32, 3) := by decide +kernel
theorem dX11_readsTerm_133 : decode cX11_readsTerm 133 = .ok (.aload_n 0, 1) := by decide +kernel
theorem dX11_readsTerm_134 : decode cX11_readsTerm 134 = .ok (.getfield 71, 3) := by decide +kernel
theorem dX11_readsTerm_137 : decode cX11_readsTerm 137 = .ok (.iload_n 1, 1) := by decide +kernel
theorem dX11_readsTerm_138 : decode cX11_readsTerm 138 = .ok (.iconst 1, 1) := by decide +kernel
theorem dX11_readsTerm_139 : decode cX11_readsTerm 139 = .ok (.isub, 1) := by decide +kernel
theorem dX11_readsTerm_140 : decode cX11_readsTerm 140 = .ok (.iaload, 1) := by decide +kernel
theorem dX11_readsTerm_141 : decode cX11_readsTerm 141 = .ok (.bipush (-9), 2) := by decide +kernel
theorem dX11_readsTerm_143 : decode cX11_readsTerm 143 = .ok (.if_icmp .ne 19, 3) := by decide +kernel
theorem dX11_readsTerm_146 : decode cX11_readsTerm 146 = .ok (.aload_n 0, 1) := by decide +kernel
theorem dX11_readsTerm_147 : decode cX11_readsTerm 147 = .ok (.getfield 71, 3) := by decide +kernel
theorem dX11_readsTerm_150 : decode cX11_readsTerm 150 = .ok (.iload_n 1, 1) := by decide +kernel
theorem dX11_readsTerm_151 : decode cX11_readsTerm 151 = .ok (.iconst 1, 1) := by decide +kernel
theorem dX11_readsTerm_152 : decode cX11_readsTerm 152 = .ok (.isub, 1) := by decide +kernel
theorem dX11_readsTerm_153 : decode cX11_readsTerm 153 = .ok (.iload 4, 2) := by decide +kernel
theorem dX11_readsTerm_155 : decode cX11_readsTerm 155 = .ok (.iastore, 1) := by decide +kernel
theorem dX11_readsTerm_156 : decode cX11_readsTerm 156 = .ok (.iconst 0, 1) := by decide +kernel
theorem dX11_readsTerm_157 : decode cX11_readsTerm 157 = .ok (.istore 5, 2) := by decide +kernel
theorem dX11_readsTerm_159 : decode cX11_readsTerm 159 = .ok (.goto (-47), 3) := by decide +kernel
theorem dX11_readsTerm_162 : decode cX11_readsTerm 162 = .ok (.iinc 1 (-1), 3) := by decide +kernel
theorem dX11_readsTerm_165 : decode cX11_readsTerm 165 = .ok (.aload_n 0, 1) := by decide +kernel
theorem dX11_readsTerm_166 : decode cX11_readsTerm 166 = .ok (.getfield 68, 3) := by decide +kernel
theorem dX11_readsTerm_169 : decode cX11_readsTerm 169 = .ok (.iload_n 1, 1) := by decide +kernel
theorem dX11_readsTerm_170 : decode cX11_readsTerm 170 = .ok (.iaload, 1) := by decide +kernel
theorem dX11_readsTerm_171 : decode cX11_readsTerm 171 = .ok (.iconst 4, 1) := by decide +kernel
theorem dX11_readsTerm_172 : decode cX11_readsTerm 172 = .ok (.if_icmp .ne 15, 3) := by decide +kernel
theorem dX11_readsTerm_175 : decode cX11_readsTerm 175 = .ok (.aload_n 0, 1) := by decide +kernel
theorem dX11_readsTerm_176 : decode cX11_readsTerm 176 = .ok (.iconst 4, 1) := by decide +kernel
theorem dX11_readsTerm_177 : decode cX11_readsTerm 177 = .ok (.iload 4, 2) := by decide +kernel
theorem dX11_readsTerm_179 : decode cX11_readsTerm 179 = .ok (.bipush (-9), 2) := by decide +kernel
theorem dX11_readsTerm_181 : decode cX11_readsTerm 181 = .ok (.invokevirtual 115, 3) := by decide +kernel
theorem dX11_readsTerm_184 : decode cX11_readsTerm 184 = .ok (.goto 16, 3) := by decide +kernel
theorem dX11_readsTerm_187 : decode cX11_readsTerm 187 = .ok (.aload_n 0, 1) := by decide +kernel
theorem dX11_readsTerm_188 : decode cX11_readsTerm 188 = .ok (.iconst 5, 1) := by decide +kernel
theorem dX11_readsTerm_189 : decode cX11_readsTerm 189 = .ok (.aload_n 0, 1) := by decide +kernel
theorem dX11_readsTerm_190 : decode cX11_readsTerm 190 = .ok (.getfield 71, 3) := by decide +kernel
theorem dX11_readsTerm_193 : decode cX11_readsTerm 193 = .ok (.iload_n 1, 1) := by decide +kernel
theorem dX11_readsTerm_194 : decode cX11_readsTerm 194 = .ok (.iaload, 1) := by decide +kernel
theorem dX11_readsTerm_195 : decode cX11_readsTerm 195 = .ok (.iload 4, 2) := by decide +kernel
theorem dX11_readsTerm_197 : decode cX11_readsTerm 197 = .ok (.invokevirtual 115, 3) := by decide +kernel
theorem dX11_readsTerm_200 : decode cX11_readsTerm 200 = .ok (.istore 4, 2) := by decide +kernel
theorem dX11_readsTerm_202 : decode cX11_readsTerm 202 = .ok (.goto (-90), 3) := by decide +kernel
theorem dX11_readsTerm_205 : decode cX11_readsTerm 205 = .ok (.iload 5, 2) := by decide +kernel
theorem dX11_readsTerm_207 : decode cX11_readsTerm 207 = .ok (.ifCond .eq 8, 3) := by decide +kernel
theorem dX11_readsTerm_210 : decode cX11_readsTerm 210 = .ok (.iload 4, 2) := by decide +kernel
theorem dX11_readsTerm_212 : decode cX11_readsTerm 212 = .ok (.goto 5, 3) := by decide +kernel
theorem dX11_readsTerm_215 : decode cX11_readsTerm 215 = .ok (.bipush (-9), 2) := by decide +kernel
theorem dX11_readsTerm_217 : decode cX11_readsTerm 217 = .ok (.istore_n 2, 1) := by decide +kernel
theorem dX11_readsTerm_218 : decode cX11_readsTerm 218 = .ok (.goto (-211), 3) := by decide +kernel
theorem dX11_readsTerm_221 : decode cX11_readsTerm 221 = .ok (.iconst 1, 1) := by decide +kernel
theorem dX11_readsTerm_222 : decode cX11_readsTerm 222 = .ok (.istore_n 3, 1) := by decide +kernel
theorem dX11_readsTerm_223 : decode cX11_readsTerm 223 = .ok (.goto (-216), 3) := by decide +kernel
theorem dX11_readsTerm_226 : decode cX11_readsTerm 226 = .ok (.iload_n 2, 1) := by decide +kernel
theorem dX11_readsTerm_227 : decode cX11_readsTerm 227 = .ok (.ireturn, 1) := by decide +kernel
theorem dX11_readsFact_0 : decode cX11_readsFact 0 = .ok (.aload_n 0, 1) := by decide +kernel
theorem dX11_readsFact_1 : decode cX11_readsFact 1 = .ok (.getfield 141, 3) := by decide +kernel
theorem dX11_readsFact_4 : decode cX11_readsFact 4 = .ok (.bipush 6, 2) := by decide +kernel
theorem dX11_readsFact_6 : decode cX11_readsFact 6 = .ok (.if_icmp .ne 5, 3) := by decide +kernel
theorem dX11_readsFact_9 : decode cX11_readsFact 9 = .ok (.iconst 0, 1) := by decide +kernel
theorem dX11_readsFact_10 : decode cX11_readsFact 10 = .ok (.ireturn, 1) := by decide +kernel
theorem dX11_readsFact_11 : decode cX11_readsFact 11 = .ok (.aload_n 0, 1) := by decide +kernel
theorem dX11_readsFact_12 : decode cX11_readsFact 12 = .ok (.getfield 56, 3) := by decide +kernel
theorem dX11_readsFact_15 : decode cX11_readsFact 15 = .ok (.aload_n 0, 1) := by decide +kernel
theorem dX11_readsFact_16 : decode cX11_readsFact 16 = .ok (.getfield 141, 3) := by decide +kernel
theorem dX11_readsFact_19 : decode cX11_readsFact 19 = .ok (.iload_n 1, 1) := by decide +kernel
theorem dX11_readsFact_20 : decode cX11_readsFact 20 = .ok (.bastore, 1) := by decide +kernel
theorem dX11_readsFact_21 : decode cX11_readsFact 21 = .ok (.aload_n 0, 1) := by decide +kernel
theorem dX11_readsFact_22 : decode cX11_readsFact 22 = .ok (.getfield 59, 3) := by decide +kernel
theorem dX11_readsFact_25 : decode cX11_readsFact 25 = .ok (.aload_n 0, 1) := by decide +kernel
theorem dX11_readsFact_26 : decode cX11_readsFact 26 = .ok (.getfield 141, 3) := by decide +kernel
theorem dX11_readsFact_29 : decode cX11_readsFact 29 = .ok (.aload_n 0, 1) := by decide +kernel
theorem dX11_readsFact_30 : decode cX11_readsFact 30 = .ok (.invokevirtual 144, 3) := by decide +kernel
theorem dX11_readsFact_33 : decode cX11_readsFact 33 = .ok (.iastore, 1) := by decide +kernel
theorem dX11_readsFact_34 : decode cX11_readsFact 34 = .ok (.aload_n 0, 1) := by decide +kernel
theorem dX11_readsFact_35 : decode cX11_readsFact 35 = .ok (.getfield 59, 3) := by decide +kernel
theorem dX11_readsFact_38 : decode cX11_readsFact 38 = .ok (.aload_n 0, 1) := by decide +kernel
theorem dX11_readsFact_39 : decode cX11_readsFact 39 = .ok (.getfield 141, 3) := by decide +kernel
theorem dX11_readsFact_42 : decode cX11_readsFact 42 = .ok (.iaload, 1) := by decide +kernel
theorem dX11_readsFact_43 : decode cX11_readsFact 43 = .ok (.bipush (-9), 2) := by decide +kernel
theorem dX11_readsFact_45 : decode cX11_readsFact 45 = .ok (.if_icmp .ne 5, 3) := by decide +kernel
theorem dX11_readsFact_48 : decode cX11_readsFact 48 = .ok (.iconst 0, 1) := by decide +kernel
theorem dX11_readsFact_49 : decode cX11_readsFact 49 = .ok (.ireturn, 1) := by decide +kernel
theorem dX11_readsFact_50 : decode cX11_readsFact 50 = .ok (.aload_n 0, 1) := by decide +kernel
theorem dX11_readsFact_51 : decode cX11_readsFact 51 = .ok (.getfield 62, 3) := by decide +kernel
theorem dX11_readsFact_54 : decode cX11_readsFact 54 = .ok (.aload_n 0, 1) := by decide +kernel
theorem dX11_readsFact_55 : decode cX11_readsFact 55 = .ok (.getfield 141, 3) := by decide +kernel
theorem dX11_readsFact_58 : decode cX11_readsFact 58 = .ok (.aload_n 0, 1) := by decide +kernel
theorem dX11_readsFact_59 : decode cX11_readsFact 59 = .ok (.invokevirtual 144, 3) := by decide +kernel
theorem dX11_readsFact_62 : decode cX11_readsFact 62 = .ok (.iastore, 1) := by decide +kernel
theorem dX11_readsFact_63 : decode cX11_readsFact 63 = .ok (.aload_n 0, 1) := by decide +kernel
theorem dX11_readsFact_64 : decode cX11_readsFact 64 = .ok (.getfield 62, 3) := by decide +kernel
theorem dX11_readsFact_67 : decode cX11_readsFact 67 = .ok (.aload_n 0, 1) := by decide +kernel
theorem dX11_readsFact_68 : decode cX11_readsFact 68 = .ok (.getfield 141, 3) := by decide +kernel
theorem dX11_readsFact_71 : decode cX11_readsFact 71 = .ok (.iaload, 1) := by decide +kernel
theorem dX11_readsFact_72 : decode cX11_readsFact 72 = .ok (.bipush (-9), 2) := by decide +kernel
theorem dX11_readsFact_74 : decode cX11_readsFact 74 = .ok (.if_icmp .ne 5, 3) := by decide +kernel
theorem dX11_readsFact_77 : decode cX11_readsFact 77 = .ok (.iconst 0, 1) := by decide +kernel
theorem dX11_readsFact_78 : decode cX11_readsFact 78 = .ok (.ireturn, 1) := by decide +kernel
theorem dX11_readsFact_79 : decode cX11_readsFact 79 = .ok (.aload_n 0, 1) := by decide +kernel
theorem dX11_readsFact_80 : decode cX11_readsFact 80 = .ok (.dup, 1) := by decide +kernel
theorem dX11_readsFact_81 : decode cX11_readsFact 81 = .ok (.getfield 141, 3) := by decide +kernel
theorem dX11_readsFact_84 : decode cX11_readsFact 84 = .ok (.iconst 1, 1) := by decide +kernel
theorem dX11_readsFact_85 : decode cX11_readsFact 85 = .ok (.iadd, 1) := by decide +kernel
theorem dX11_readsFact_86 : decode cX11_readsFact 86 = .ok (.putfield 141, 3) := by decide +kernel
theorem dX11_readsFact_89 : decode cX11_readsFact 89 = .ok (.iconst 1, 1) := by decide +kernel
theorem dX11_readsFact_90 : decode cX11_readsFact 90 = .ok (.ireturn, 1) := by decide +kernel
theorem dX11_readsInstruction_0 : decode cX11_readsInstruction 0 = .ok (.aload_n 0, 1) := by decide +kernel
theorem dX11_readsInstruction_1 : decode cX11_readsInstruction 1 = .ok (.getfield 148, 3) := by decide +kernel
theorem dX11_readsInstruction_4 : decode cX11_readsInstruction 4 = .ok (.bipush 6, 2) := by decide +kernel
theorem dX11_readsInstruction_6 : decode cX11_readsInstruction 6 = .ok (.if_icmp .ne 5, 3) := by decide +kernel
theorem dX11_readsInstruction_9 : decode cX11_readsInstruction 9 = .ok (.iconst 0, 1) := by decide +kernel
theorem dX11_readsInstruction_10 : decode cX11_readsInstruction 10 = .ok (.ireturn, 1) := by decide +kernel
theorem dX11_readsInstruction_11 : decode cX11_readsInstruction 11 = .ok (.iconst 4, 1) := by decide +kernel
theorem dX11_readsInstruction_12 : decode cX11_readsInstruction 12 = .ok (.aload_n 0, 1) := by decide +kernel
theorem dX11_readsInstruction_13 : decode cX11_readsInstruction 13 = .ok (.getfield 148, 3) := by decide +kernel
theorem dX11_readsInstruction_16 : decode cX11_readsInstruction 16 = .ok (.imul, 1) := by decide +kernel
theorem dX11_readsInstruction_17 : decode cX11_readsInstruction 17 = .ok (.istore_n 2, 1) := by decide +kernel
theorem dX11_readsInstruction_18 : decode cX11_readsInstruction 18 = .ok (.aload_n 0, 1) := by decide +kernel
theorem dX11_readsInstruction_19 : decode cX11_readsInstruction 19 = .ok (.getfield 65, 3) := by decide +kernel
theorem dX11_readsInstruction_22 : decode cX11_readsInstruction 22 = .ok (.iload_n 2, 1) := by decide +kernel
theorem dX11_readsInstruction_23 : decode cX11_readsInstruction 23 = .ok (.iload_n 1, 1) := by decide +kernel
theorem dX11_readsInstruction_24 : decode cX11_readsInstruction 24 = .ok (.iastore, 1) := by decide +kernel
theorem dX11_readsInstruction_25 : decode cX11_readsInstruction 25 = .ok (.iconst 1, 1) := by decide +kernel
theorem dX11_readsInstruction_26 : decode cX11_readsInstruction 26 = .ok (.istore_n 3, 1) := by decide +kernel
theorem dX11_readsInstruction_27 : decode cX11_readsInstruction 27 = .ok (.iload_n 3, 1) := by decide +kernel
theorem dX11_readsInstruction_28 : decode cX11_readsInstruction 28 = .ok (.iconst 4, 1) := by decide +kernel
theorem dX11_readsInstruction_29 : decode cX11_readsInstruction 29 = .ok (.if_icmp .ge 64, 3) := by decide +kernel
theorem dX11_readsInstruction_32 : decode cX11_readsInstruction 32 = .ok (.aload_n 0, 1) := by decide +kernel
theorem dX11_readsInstruction_33 : decode cX11_readsInstruction 33 = .ok (.getfield 65, 3) := by decide +kernel
theorem dX11_readsInstruction_36 : decode cX11_readsInstruction 36 = .ok (.iload_n 2, 1) := by decide +kernel
theorem dX11_readsInstruction_37 : decode cX11_readsInstruction 37 = .ok (.iload_n 3, 1) := by decide +kernel
theorem dX11_readsInstruction_38 : decode cX11_readsInstruction 38 = .ok (.iadd, 1) := by decide +kernel
theorem dX11_readsInstruction_39 : decode cX11_readsInstruction 39 = .ok (.iconst 0, 1) := by decide +kernel
theorem dX11_readsInstruction_40 : decode cX11_readsInstruction 40 = .ok (.iastore, 1) := by decide +kernel
theorem dX11_readsInstruction_41 : decode cX11_readsInstruction 41 = .ok (.iload_n 1, 1) := by decide +kernel
theorem dX11_readsInstruction_42 : decode cX11_readsInstruction 42 = .ok (.ifCond .le 45, 3) := by decide +kernel
theorem dX11_readsInstruction_45 : decode cX11_readsInstruction 45 = .ok (.iload_n 3, 1) := by decide +kernel
theorem dX11_readsInstruction_46 : decode cX11_readsInstruction 46 = .ok (.iload_n 1, 1) := by decide +kernel
theorem dX11_readsInstruction_47 : decode cX11_readsInstruction 47 = .ok (.iconst 2, 1) := by decide +kernel
theorem dX11_readsInstruction_48 : decode cX11_readsInstruction 48 = .ok (.iadd, 1) := by decide +kernel
theorem dX11_readsInstruction_49 : decode cX11_readsInstruction 49 = .ok (.if_icmp .ge 38, 3) := by decide +kernel
theorem dX11_readsInstruction_52 : decode cX11_readsInstruction 52 = .ok (.aload_n 0, 1) := by decide +kernel
theorem dX11_readsInstruction_53 : decode cX11_readsInstruction 53 = .ok (.invokevirtual 138, 3) := by decide +kernel
theorem dX11_readsInstruction_56 : decode cX11_readsInstruction 56 = .ok (.aload_n 0, 1) := by decide +kernel
theorem dX11_readsInstruction_57 : decode cX11_readsInstruction 57 = .ok (.getfield 135, 3) := by decide +kernel
theorem dX11_readsInstruction_60 : decode cX11_readsInstruction 60 = .ok (.bipush 48, 2) := by decide +kernel
theorem dX11_readsInstruction_62 : decode cX11_readsInstruction 62 = .ok (.bipush 51, 2) := by decide +kernel
theorem dX11_readsInstruction_64 : decode cX11_readsInstruction 64 = .ok (.invokestatic 122, 3) := by decide +kernel
theorem dX11_readsInstruction_67 : decode cX11_readsInstruction 67 = .ok (.ifCond .ne 5, 3) := by decide +kernel
theorem dX11_readsInstruction_70 : decode cX11_readsInstruction 70 = .ok (.iconst 0, 1) := by decide +kernel
theorem dX11_readsInstruction_71 : decode cX11_readsInstruction 71 = .ok (.ireturn, 1) := by decide +kernel
theorem dX11_readsInstruction_72 : decode cX11_readsInstruction 72 = .ok (.aload_n 0, 1) := by decide +kernel
theorem dX11_readsInstruction_73 : decode cX11_readsInstruction 73 = .ok (.getfield 65, 3) := by decide +kernel
theorem dX11_readsInstruction_76 : decode cX11_readsInstruction 76 = .ok (.iload_n 2, 1) := by decide +kernel
theorem dX11_readsInstruction_77 : decode cX11_readsInstruction 77 = .ok (.iload_n 3, 1) := by decide +kernel
theorem dX11_readsInstruction_78 : decode cX11_readsInstruction 78 = .ok (.iadd, 1) := by decide +kernel
theorem dX11_readsInstruction_79 : decode cX11_readsInstruction 79 = .ok (.aload_n 0, 1) := by decide +kernel
theorem dX11_readsInstruction_80 : decode cX11_readsInstruction 80 = .ok (.getfield 135, 3) := by decide +kernel
theorem dX11_readsInstruction_83 : decode cX11_readsInstruction 83 = .ok (.bipush 48, 2) := by decide +kernel
theorem dX11_readsInstruction_85 : decode cX11_readsInstruction 85 = .ok (.isub, 1) := by decide +kernel
theorem dX11_readsInstruction_86 : decode cX11_readsInstruction 86 = .ok (.iastore, 1) := by decide +kernel
theorem dX11_readsInstruction_87 : decode cX11_readsInstruction 87 = .ok (.iinc 3 1, 3) := by decide +kernel
theorem dX11_readsInstruction_90 : decode cX11_readsInstruction 90 = .ok (.goto (-63), 3) := by decide +kernel
theorem dX11_readsInstruction_93 : decode cX11_readsInstruction 93 = .ok (.aload_n 0, 1) := by decide +kernel
theorem dX11_readsInstruction_94 : decode cX11_readsInstruction 94 = .ok (.dup, 1) := by decide +kernel
theorem dX11_readsInstruction_95 : decode cX11_readsInstruction 95 = .ok (.getfield 148, 3) := by decide +kernel
theorem dX11_readsInstruction_98 : decode cX11_readsInstruction 98 = .ok (.iconst 1, 1) := by decide +kernel
theorem dX11_readsInstruction_99 : decode cX11_readsInstruction 99 = .ok (.iadd, 1) := by decide +kernel
theorem dX11_readsInstruction_100 : decode cX11_readsInstruction 100 = .ok (.putfield 148, 3) := by decide +kernel
theorem dX11_readsInstruction_103 : decode cX11_readsInstruction 103 = .ok (.iconst 1, 1) := by decide +kernel
theorem dX11_readsInstruction_104 : decode cX11_readsInstruction 104 = .ok (.ireturn, 1) := by decide +kernel
theorem dX11_item_0 : decode cX11_item 0 = .ok (.aload_n 0, 1) := by decide +kernel
theorem dX11_item_1 : decode cX11_item 1 = .ok (.getfield 135, 3) := by decide +kernel
theorem dX11_item_4 : decode cX11_item 4 = .ok (.lookupswitch 82 #[(33, 58), (61, 52), (110, 64), (111, 76), (117, 70)], 52) := by decide +kernel
theorem dX11_item_56 : decode cX11_item 56 = .ok (.aload_n 0, 1) := by decide +kernel
theorem dX11_item_57 : decode cX11_item 57 = .ok (.iconst 0, 1) := by decide +kernel
theorem dX11_item_58 : decode cX11_item 58 = .ok (.invokevirtual 151, 3) := by decide +kernel
theorem dX11_item_61 : decode cX11_item 61 = .ok (.ireturn, 1) := by decide +kernel
theorem dX11_item_62 : decode cX11_item 62 = .ok (.aload_n 0, 1) := by decide +kernel
theorem dX11_item_63 : decode cX11_item 63 = .ok (.iconst 1, 1) := by decide +kernel
theorem dX11_item_64 : decode cX11_item 64 = .ok (.invokevirtual 151, 3) := by decide +kernel
theorem dX11_item_67 : decode cX11_item 67 = .ok (.ireturn, 1) := by decide +kernel
theorem dX11_item_68 : decode cX11_item 68 = .ok (.aload_n 0, 1) := by decide +kernel
theorem dX11_item_69 : decode cX11_item 69 = .ok (.iconst 0, 1) := by decide +kernel
theorem dX11_item_70 : decode cX11_item 70 = .ok (.invokevirtual 155, 3) := by decide +kernel
theorem dX11_item_73 : decode cX11_item 73 = .ok (.ireturn, 1) := by decide +kernel
theorem dX11_item_74 : decode cX11_item 74 = .ok (.aload_n 0, 1) := by decide +kernel
theorem dX11_item_75 : decode cX11_item 75 = .ok (.iconst 1, 1) := by decide +kernel
theorem dX11_item_76 : decode cX11_item 76 = .ok (.invokevirtual 155, 3) := by decide +kernel
theorem dX11_item_79 : decode cX11_item 79 = .ok (.ireturn, 1) := by decide +kernel
theorem dX11_item_80 : decode cX11_item 80 = .ok (.aload_n 0, 1) := by decide +kernel
theorem dX11_item_81 : decode cX11_item 81 = .ok (.iconst 2, 1) := by decide +kernel
theorem dX11_item_82 : decode cX11_item 82 = .ok (.invokevirtual 155, 3) := by decide +kernel
theorem dX11_item_85 : decode cX11_item 85 = .ok (.ireturn, 1) := by decide +kernel
theorem dX11_item_86 : decode cX11_item 86 = .ok (.iconst 0, 1) := by decide +kernel
theorem dX11_item_87 : decode cX11_item 87 = .ok (.ireturn, 1) := by decide +kernel
theorem dX11_begins_0 : decode cX11_begins 0 = .ok (.aload_n 0, 1) := by decide +kernel
theorem dX11_begins_1 : decode cX11_begins 1 = .ok (.invokevirtual 159, 3) := by decide +kernel
theorem dX11_begins_4 : decode cX11_begins 4 = .ok (.aload_n 0, 1) := by decide +kernel
theorem dX11_begins_5 : decode cX11_begins 5 = .ok (.iconst 0, 1) := by decide +kernel
theorem dX11_begins_6 : decode cX11_begins 6 = .ok (.putfield 141, 3) := by decide +kernel
theorem dX11_begins_9 : decode cX11_begins 9 = .ok (.aload_n 0, 1) := by decide +kernel
theorem dX11_begins_10 : decode cX11_begins 10 = .ok (.iconst 0, 1) := by decide +kernel
theorem dX11_begins_11 : decode cX11_begins 11 = .ok (.putfield 148, 3) := by decide +kernel
theorem dX11_begins_14 : decode cX11_begins 14 = .ok (.return_, 1) := by decide +kernel
theorem dX11_becomes_0 : decode cX11_becomes 0 = .ok (.aload_n 0, 1) := by decide +kernel
theorem dX11_becomes_1 : decode cX11_becomes 1 = .ok (.aload_n 0, 1) := by decide +kernel
theorem dX11_becomes_2 : decode cX11_becomes 2 = .ok (.getfield 112, 3) := by decide +kernel
theorem dX11_becomes_5 : decode cX11_becomes 5 = .ok (.putfield 119, 3) := by decide +kernel
theorem dX11_becomes_8 : decode cX11_becomes 8 = .ok (.aload_n 0, 1) := by decide +kernel
theorem dX11_becomes_9 : decode cX11_becomes 9 = .ok (.aload_n 0, 1) := by decide +kernel
theorem dX11_becomes_10 : decode cX11_becomes 10 = .ok (.getfield 141, 3) := by decide +kernel
theorem dX11_becomes_13 : decode cX11_becomes 13 = .ok (.putfield 162, 3) := by decide +kernel
theorem dX11_becomes_16 : decode cX11_becomes 16 = .ok (.iconst 0, 1) := by decide +kernel
theorem dX11_becomes_17 : decode cX11_becomes 17 = .ok (.istore_n 1, 1) := by decide +kernel
theorem dX11_becomes_18 : decode cX11_becomes 18 = .ok (.iload_n 1, 1) := by decide +kernel
theorem dX11_becomes_19 : decode cX11_becomes 19 = .ok (.bipush 6, 2) := by decide +kernel
theorem dX11_becomes_21 : decode cX11_becomes 21 = .ok (.if_icmp .ge 45, 3) := by decide +kernel
theorem dX11_becomes_24 : decode cX11_becomes 24 = .ok (.aload_n 0, 1) := by decide +kernel
theorem dX11_becomes_25 : decode cX11_becomes 25 = .ok (.getfield 7, 3) := by decide +kernel
theorem dX11_becomes_28 : decode cX11_becomes 28 = .ok (.iload_n 1, 1) := by decide +kernel
theorem dX11_becomes_29 : decode cX11_becomes 29 = .ok (.aload_n 0, 1) := by decide +kernel
theorem dX11_becomes_30 : decode cX11_becomes 30 = .ok (.getfield 56, 3) := by decide +kernel
theorem dX11_becomes_33 : decode cX11_becomes 33 = .ok (.iload_n 1, 1) := by decide +kernel
theorem dX11_becomes_34 : decode cX11_becomes 34 = .ok (.baload, 1) := by decide +kernel
theorem dX11_becomes_35 : decode cX11_becomes 35 = .ok (.bastore, 1) := by decide +kernel
theorem dX11_becomes_36 : decode cX11_becomes 36 = .ok (.aload_n 0, 1) := by decide +kernel
theorem dX11_becomes_37 : decode cX11_becomes 37 = .ok (.getfield 13, 3) := by decide +kernel
theorem dX11_becomes_40 : decode cX11_becomes 40 = .ok (.iload_n 1, 1) := by decide +kernel
theorem dX11_becomes_41 : decode cX11_becomes 41 = .ok (.aload_n 0, 1) := by decide +kernel
theorem dX11_becomes_42 : decode cX11_becomes 42 = .ok (.getfield 59, 3) := by decide +kernel
theorem dX11_becomes_45 : decode cX11_becomes 45 = .ok (.iload_n 1, 1) := by decide +kernel
theorem dX11_becomes_46 : decode cX11_becomes 46 = .ok (.iaload, 1) := by decide +kernel
theorem dX11_becomes_47 : decode cX11_becomes 47 = .ok (.iastore, 1) := by decide +kernel
theorem dX11_becomes_48 : decode cX11_becomes 48 = .ok (.aload_n 0, 1) := by decide +kernel
theorem dX11_becomes_49 : decode cX11_becomes 49 = .ok (.getfield 17, 3) := by decide +kernel
theorem dX11_becomes_52 : decode cX11_becomes 52 = .ok (.iload_n 1, 1) := by decide +kernel
theorem dX11_becomes_53 : decode cX11_becomes 53 = .ok (.aload_n 0, 1) := by decide +kernel
theorem dX11_becomes_54 : decode cX11_becomes 54 = .ok (.getfield 62, 3) := by decide +kernel
theorem dX11_becomes_57 : decode cX11_becomes 57 = .ok (.iload_n 1, 1) := by decide +kernel
theorem dX11_becomes_58 : decode cX11_becomes 58 = .ok (.iaload, 1) := by decide +kernel
theorem dX11_becomes_59 : decode cX11_becomes 59 = .ok (.iastore, 1) := by decide +kernel
theorem dX11_becomes_60 : decode cX11_becomes 60 = .ok (.iinc 1 1, 3) := by decide +kernel
theorem dX11_becomes_63 : decode cX11_becomes 63 = .ok (.goto (-45), 3) := by decide +kernel
theorem dX11_becomes_66 : decode cX11_becomes 66 = .ok (.aload_n 0, 1) := by decide +kernel
theorem dX11_becomes_67 : decode cX11_becomes 67 = .ok (.getfield 20, 3) := by decide +kernel
theorem dX11_becomes_70 : decode cX11_becomes 70 = .ok (.iconst 0, 1) := by decide +kernel
theorem dX11_becomes_71 : decode cX11_becomes 71 = .ok (.aload_n 0, 1) := by decide +kernel
theorem dX11_becomes_72 : decode cX11_becomes 72 = .ok (.getfield 148, 3) := by decide +kernel
theorem dX11_becomes_75 : decode cX11_becomes 75 = .ok (.iastore, 1) := by decide +kernel
theorem dX11_becomes_76 : decode cX11_becomes 76 = .ok (.iconst 0, 1) := by decide +kernel
theorem dX11_becomes_77 : decode cX11_becomes 77 = .ok (.istore_n 1, 1) := by decide +kernel
theorem dX11_becomes_78 : decode cX11_becomes 78 = .ok (.iload_n 1, 1) := by decide +kernel
theorem dX11_becomes_79 : decode cX11_becomes 79 = .ok (.bipush 24, 2) := by decide +kernel
theorem dX11_becomes_81 : decode cX11_becomes 81 = .ok (.if_icmp .ge 37, 3) := by decide +kernel
theorem dX11_becomes_84 : decode cX11_becomes 84 = .ok (.aload_n 0, 1) := by decide +kernel
theorem dX11_becomes_85 : decode cX11_becomes 85 = .ok (.getfield 20, 3) := by decide +kernel
theorem dX11_becomes_88 : decode cX11_becomes 88 = .ok (.iconst 1, 1) := by decide +kernel
theorem dX11_becomes_89 : decode cX11_becomes 89 = .ok (.iload_n 1, 1) := by decide +kernel
theorem dX11_becomes_90 : decode cX11_becomes 90 = .ok (.iadd, 1) := by decide +kernel
theorem dX11_becomes_91 : decode cX11_becomes 91 = .ok (.iload_n 1, 1) := by decide +kernel
theorem dX11_becomes_92 : decode cX11_becomes 92 = .ok (.iconst 4, 1) := by decide +kernel
theorem dX11_becomes_93 : decode cX11_becomes 93 = .ok (.aload_n 0, 1) := by decide +kernel
theorem dX11_becomes_94 : decode cX11_becomes 94 = .ok (.getfield 148, 3) := by decide +kernel
theorem dX11_becomes_97 : decode cX11_becomes 97 = .ok (.imul, 1) := by decide +kernel
theorem dX11_becomes_98 : decode cX11_becomes 98 = .ok (.if_icmp .ge 12, 3) := by decide +kernel
theorem dX11_becomes_101 : decode cX11_becomes 101 = .ok (.aload_n 0, 1) := by decide +kernel
theorem dX11_becomes_102 : decode cX11_becomes 102 = .ok (.getfield 65, 3) := by decide +kernel
theorem dX11_becomes_105 : decode cX11_becomes 105 = .ok (.iload_n 1, 1) := by decide +kernel
theorem dX11_becomes_106 : decode cX11_becomes 106 = .ok (.iaload, 1) := by decide +kernel
theorem dX11_becomes_107 : decode cX11_becomes 107 = .ok (.goto 4, 3) := by decide +kernel
theorem dX11_becomes_110 : decode cX11_becomes 110 = .ok (.iconst 0, 1) := by decide +kernel
theorem dX11_becomes_111 : decode cX11_becomes 111 = .ok (.iastore, 1) := by decide +kernel
theorem dX11_becomes_112 : decode cX11_becomes 112 = .ok (.iinc 1 1, 3) := by decide +kernel
theorem dX11_becomes_115 : decode cX11_becomes 115 = .ok (.goto (-37), 3) := by decide +kernel
theorem dX11_becomes_118 : decode cX11_becomes 118 = .ok (.aload_n 0, 1) := by decide +kernel
theorem dX11_becomes_119 : decode cX11_becomes 119 = .ok (.getfield 20, 3) := by decide +kernel
theorem dX11_becomes_122 : decode cX11_becomes 122 = .ok (.bipush 25, 2) := by decide +kernel
theorem dX11_becomes_124 : decode cX11_becomes 124 = .ok (.iconst 1, 1) := by decide +kernel
theorem dX11_becomes_125 : decode cX11_becomes 125 = .ok (.aload_n 0, 1) := by decide +kernel
theorem dX11_becomes_126 : decode cX11_becomes 126 = .ok (.getfield 162, 3) := by decide +kernel
theorem dX11_becomes_129 : decode cX11_becomes 129 = .ok (.ishl, 1) := by decide +kernel
theorem dX11_becomes_130 : decode cX11_becomes 130 = .ok (.iconst 1, 1) := by decide +kernel
theorem dX11_becomes_131 : decode cX11_becomes 131 = .ok (.isub, 1) := by decide +kernel
theorem dX11_becomes_132 : decode cX11_becomes 132 = .ok (.iastore, 1) := by decide +kernel
theorem dX11_becomes_133 : decode cX11_becomes 133 = .ok (.aload_n 0, 1) := by decide +kernel
theorem dX11_becomes_134 : decode cX11_becomes 134 = .ok (.getfield 20, 3) := by decide +kernel
theorem dX11_becomes_137 : decode cX11_becomes 137 = .ok (.bipush 26, 2) := by decide +kernel
theorem dX11_becomes_139 : decode cX11_becomes 139 = .ok (.iconst 2, 1) := by decide +kernel
theorem dX11_becomes_140 : decode cX11_becomes 140 = .ok (.iastore, 1) := by decide +kernel
theorem dX11_becomes_141 : decode cX11_becomes 141 = .ok (.aload_n 0, 1) := by decide +kernel
theorem dX11_becomes_142 : decode cX11_becomes 142 = .ok (.getfield 20, 3) := by decide +kernel
theorem dX11_becomes_145 : decode cX11_becomes 145 = .ok (.bipush 27, 2) := by decide +kernel
theorem dX11_becomes_147 : decode cX11_becomes 147 = .ok (.iconst 0, 1) := by decide +kernel
theorem dX11_becomes_148 : decode cX11_becomes 148 = .ok (.iastore, 1) := by decide +kernel
theorem dX11_becomes_149 : decode cX11_becomes 149 = .ok (.aload_n 0, 1) := by decide +kernel
theorem dX11_becomes_150 : decode cX11_becomes 150 = .ok (.getfield 20, 3) := by decide +kernel
theorem dX11_becomes_153 : decode cX11_becomes 153 = .ok (.bipush 28, 2) := by decide +kernel
theorem dX11_becomes_155 : decode cX11_becomes 155 = .ok (.iconst 0, 1) := by decide +kernel
theorem dX11_becomes_156 : decode cX11_becomes 156 = .ok (.iastore, 1) := by decide +kernel
theorem dX11_becomes_157 : decode cX11_becomes 157 = .ok (.aload_n 0, 1) := by decide +kernel
theorem dX11_becomes_158 : decode cX11_becomes 158 = .ok (.iconst 0, 1) := by decide +kernel
theorem dX11_becomes_159 : decode cX11_becomes 159 = .ok (.putfield 165, 3) := by decide +kernel
theorem dX11_becomes_162 : decode cX11_becomes 162 = .ok (.aload_n 0, 1) := by decide +kernel
theorem dX11_becomes_163 : decode cX11_becomes 163 = .ok (.iconst 0, 1) := by decide +kernel
theorem dX11_becomes_164 : decode cX11_becomes 164 = .ok (.putfield 168, 3) := by decide +kernel
theorem dX11_becomes_167 : decode cX11_becomes 167 = .ok (.aload_n 0, 1) := by decide +kernel
theorem dX11_becomes_168 : decode cX11_becomes 168 = .ok (.getfield 29, 3) := by decide +kernel
theorem dX11_becomes_171 : decode cX11_becomes 171 = .ok (.iconst 0, 1) := by decide +kernel
theorem dX11_becomes_172 : decode cX11_becomes 172 = .ok (.iconst 0, 1) := by decide +kernel
theorem dX11_becomes_173 : decode cX11_becomes 173 = .ok (.bastore, 1) := by decide +kernel
theorem dX11_becomes_174 : decode cX11_becomes 174 = .ok (.aload_n 0, 1) := by decide +kernel
theorem dX11_becomes_175 : decode cX11_becomes 175 = .ok (.getfield 29, 3) := by decide +kernel
theorem dX11_becomes_178 : decode cX11_becomes 178 = .ok (.iconst 1, 1) := by decide +kernel
theorem dX11_becomes_179 : decode cX11_becomes 179 = .ok (.iconst 0, 1) := by decide +kernel
theorem dX11_becomes_180 : decode cX11_becomes 180 = .ok (.bastore, 1) := by decide +kernel
theorem dX11_becomes_181 : decode cX11_becomes 181 = .ok (.return_, 1) := by decide +kernel
theorem dX11_machine_0 : decode cX11_machine 0 = .ok (.aload_n 0, 1) := by decide +kernel
theorem dX11_machine_1 : decode cX11_machine 1 = .ok (.iconst 0, 1) := by decide +kernel
theorem dX11_machine_2 : decode cX11_machine 2 = .ok (.putfield 104, 3) := by decide +kernel
theorem dX11_machine_5 : decode cX11_machine 5 = .ok (.aload_n 0, 1) := by decide +kernel
theorem dX11_machine_6 : decode cX11_machine 6 = .ok (.getfield 119, 3) := by decide +kernel
theorem dX11_machine_9 : decode cX11_machine 9 = .ok (.istore_n 1, 1) := by decide +kernel
theorem dX11_machine_10 : decode cX11_machine 10 = .ok (.iconst 0, 1) := by decide +kernel
theorem dX11_machine_11 : decode cX11_machine 11 = .ok (.istore_n 2, 1) := by decide +kernel
theorem dX11_machine_12 : decode cX11_machine 12 = .ok (.iload_n 2, 1) := by decide +kernel
theorem dX11_machine_13 : decode cX11_machine 13 = .ok (.iload_n 1, 1) := by decide +kernel
theorem dX11_machine_14 : decode cX11_machine 14 = .ok (.if_icmp .ge 45, 3) := by decide +kernel
theorem dX11_machine_17 : decode cX11_machine 17 = .ok (.aload_n 0, 1) := by decide +kernel
theorem dX11_machine_18 : decode cX11_machine 18 = .ok (.getfield 74, 3) := by decide +kernel
theorem dX11_machine_21 : decode cX11_machine 21 = .ok (.iload_n 2, 1) := by decide +kernel
theorem dX11_machine_22 : decode cX11_machine 22 = .ok (.aload_n 0, 1) := by decide +kernel
theorem dX11_machine_23 : decode cX11_machine 23 = .ok (.getfield 38, 3) := by decide +kernel
theorem dX11_machine_26 : decode cX11_machine 26 = .ok (.iload_n 2, 1) := by decide +kernel
theorem dX11_machine_27 : decode cX11_machine 27 = .ok (.iaload, 1) := by decide +kernel
theorem dX11_machine_28 : decode cX11_machine 28 = .ok (.iastore, 1) := by decide +kernel
theorem dX11_machine_29 : decode cX11_machine 29 = .ok (.aload_n 0, 1) := by decide +kernel
theorem dX11_machine_30 : decode cX11_machine 30 = .ok (.getfield 77, 3) := by decide +kernel
theorem dX11_machine_33 : decode cX11_machine 33 = .ok (.iload_n 2, 1) := by decide +kernel
theorem dX11_machine_34 : decode cX11_machine 34 = .ok (.aload_n 0, 1) := by decide +kernel
theorem dX11_machine_35 : decode cX11_machine 35 = .ok (.getfield 41, 3) := by decide +kernel
theorem dX11_machine_38 : decode cX11_machine 38 = .ok (.iload_n 2, 1) := by decide +kernel
theorem dX11_machine_39 : decode cX11_machine 39 = .ok (.iaload, 1) := by decide +kernel
theorem dX11_machine_40 : decode cX11_machine 40 = .ok (.iastore, 1) := by decide +kernel
theorem dX11_machine_41 : decode cX11_machine 41 = .ok (.aload_n 0, 1) := by decide +kernel
theorem dX11_machine_42 : decode cX11_machine 42 = .ok (.getfield 80, 3) := by decide +kernel
theorem dX11_machine_45 : decode cX11_machine 45 = .ok (.iload_n 2, 1) := by decide +kernel
theorem dX11_machine_46 : decode cX11_machine 46 = .ok (.aload_n 0, 1) := by decide +kernel
theorem dX11_machine_47 : decode cX11_machine 47 = .ok (.getfield 44, 3) := by decide +kernel
theorem dX11_machine_50 : decode cX11_machine 50 = .ok (.iload_n 2, 1) := by decide +kernel
theorem dX11_machine_51 : decode cX11_machine 51 = .ok (.iaload, 1) := by decide +kernel
theorem dX11_machine_52 : decode cX11_machine 52 = .ok (.iastore, 1) := by decide +kernel
theorem dX11_machine_53 : decode cX11_machine 53 = .ok (.iinc 2 1, 3) := by decide +kernel
theorem dX11_machine_56 : decode cX11_machine 56 = .ok (.goto (-44), 3) := by decide +kernel
theorem dX11_machine_59 : decode cX11_machine 59 = .ok (.aload_n 0, 1) := by decide +kernel
theorem dX11_machine_60 : decode cX11_machine 60 = .ok (.invokevirtual 98, 3) := by decide +kernel
theorem dX11_machine_63 : decode cX11_machine 63 = .ok (.aload_n 0, 1) := by decide +kernel
theorem dX11_machine_64 : decode cX11_machine 64 = .ok (.iconst 0, 1) := by decide +kernel
theorem dX11_machine_65 : decode cX11_machine 65 = .ok (.putfield 129, 3) := by decide +kernel
theorem dX11_machine_68 : decode cX11_machine 68 = .ok (.iconst 0, 1) := by decide +kernel
theorem dX11_machine_69 : decode cX11_machine 69 = .ok (.istore_n 2, 1) := by decide +kernel
theorem dX11_machine_70 : decode cX11_machine 70 = .ok (.aload_n 0, 1) := by decide +kernel
theorem dX11_machine_71 : decode cX11_machine 71 = .ok (.invokevirtual 138, 3) := by decide +kernel
theorem dX11_machine_74 : decode cX11_machine 74 = .ok (.aload_n 0, 1) := by decide +kernel
theorem dX11_machine_75 : decode cX11_machine 75 = .ok (.getfield 135, 3) := by decide +kernel
theorem dX11_machine_78 : decode cX11_machine 78 = .ok (.iconst (-1), 1) := by decide +kernel
theorem dX11_machine_79 : decode cX11_machine 79 = .ok (.if_icmp .eq 109, 3) := by decide +kernel
theorem dX11_machine_82 : decode cX11_machine 82 = .ok (.aload_n 0, 1) := by decide +kernel
theorem dX11_machine_83 : decode cX11_machine 83 = .ok (.invokevirtual 171, 3) := by decide +kernel
theorem dX11_machine_86 : decode cX11_machine 86 = .ok (.istore_n 3, 1) := by decide +kernel
theorem dX11_machine_87 : decode cX11_machine 87 = .ok (.iload_n 3, 1) := by decide +kernel
theorem dX11_machine_88 : decode cX11_machine 88 = .ok (.ifCond .eq 7, 3) := by decide +kernel
theorem dX11_machine_91 : decode cX11_machine 91 = .ok (.aload_n 0, 1) := by decide +kernel
theorem dX11_machine_92 : decode cX11_machine 92 = .ok (.invokevirtual 138, 3) := by decide +kernel
theorem dX11_machine_95 : decode cX11_machine 95 = .ok (.iload_n 3, 1) := by decide +kernel
theorem dX11_machine_96 : decode cX11_machine 96 = .ok (.ifCond .eq 12, 3) := by decide +kernel
theorem dX11_machine_99 : decode cX11_machine 99 = .ok (.aload_n 0, 1) := by decide +kernel
theorem dX11_machine_100 : decode cX11_machine 100 = .ok (.getfield 135, 3) := by decide +kernel
theorem dX11_machine_103 : decode cX11_machine 103 = .ok (.bipush 59, 2) := by decide +kernel
theorem dX11_machine_105 : decode cX11_machine 105 = .ok (.if_icmp .eq 73, 3) := by decide +kernel
theorem dX11_machine_108 : decode cX11_machine 108 = .ok (.iconst 0, 1) := by decide +kernel
theorem dX11_machine_109 : decode cX11_machine 109 = .ok (.istore 4, 2) := by decide +kernel
theorem dX11_machine_111 : decode cX11_machine 111 = .ok (.iload 4, 2) := by decide +kernel
theorem dX11_machine_113 : decode cX11_machine 113 = .ok (.iload_n 1, 1) := by decide +kernel
theorem dX11_machine_114 : decode cX11_machine 114 = .ok (.if_icmp .ge 51, 3) := by decide +kernel
theorem dX11_machine_117 : decode cX11_machine 117 = .ok (.aload_n 0, 1) := by decide +kernel
theorem dX11_machine_118 : decode cX11_machine 118 = .ok (.getfield 38, 3) := by decide +kernel
theorem dX11_machine_121 : decode cX11_machine 121 = .ok (.iload 4, 2) := by decide +kernel
theorem dX11_machine_123 : decode cX11_machine 123 = .ok (.aload_n 0, 1) := by decide +kernel
theorem dX11_machine_124 : decode cX11_machine 124 = .ok (.getfield 74, 3) := by decide +kernel
theorem dX11_machine_127 : decode cX11_machine 127 = .ok (.iload 4, 2) := by decide +kernel
theorem dX11_machine_129 : decode cX11_machine 129 = .ok (.iaload, 1) := by decide +kernel
theorem dX11_machine_130 : decode cX11_machine 130 = .ok (.iastore, 1) := by decide +kernel
theorem dX11_machine_131 : decode cX11_machine 131 = .ok (.aload_n 0, 1) := by decide +kernel
theorem dX11_machine_132 : decode cX11_machine 132 = .ok (.getfield 41, 3) := by decide +kernel
theorem dX11_machine_135 : decode cX11_machine 135 = .ok (.iload 4, 2) := by decide +kernel
theorem dX11_machine_137 : decode cX11_machine 137 = .ok (.aload_n 0, 1) := by decide +kernel
theorem dX11_machine_138 : decode cX11_machine 138 = .ok (.getfield 77, 3) := by decide +kernel
theorem dX11_machine_141 : decode cX11_machine 141 = .ok (.iload 4, 2) := by decide +kernel
theorem dX11_machine_143 : decode cX11_machine 143 = .ok (.iaload, 1) := by decide +kernel
theorem dX11_machine_144 : decode cX11_machine 144 = .ok (.iastore, 1) := by decide +kernel
theorem dX11_machine_145 : decode cX11_machine 145 = .ok (.aload_n 0, 1) := by decide +kernel
theorem dX11_machine_146 : decode cX11_machine 146 = .ok (.getfield 44, 3) := by decide +kernel
theorem dX11_machine_149 : decode cX11_machine 149 = .ok (.iload 4, 2) := by decide +kernel
theorem dX11_machine_151 : decode cX11_machine 151 = .ok (.aload_n 0, 1) := by decide +kernel
theorem dX11_machine_152 : decode cX11_machine 152 = .ok (.getfield 80, 3) := by decide +kernel
theorem dX11_machine_155 : decode cX11_machine 155 = .ok (.iload 4, 2) := by decide +kernel
theorem dX11_machine_157 : decode cX11_machine 157 = .ok (.iaload, 1) := by decide +kernel
theorem dX11_machine_158 : decode cX11_machine 158 = .ok (.iastore, 1) := by decide +kernel
theorem dX11_machine_159 : decode cX11_machine 159 = .ok (.iinc 4 1, 3) := by decide +kernel
theorem dX11_machine_162 : decode cX11_machine 162 = .ok (.goto (-51), 3) := by decide +kernel
theorem dX11_machine_165 : decode cX11_machine 165 = .ok (.aload_n 0, 1) := by decide +kernel
theorem dX11_machine_166 : decode cX11_machine 166 = .ok (.iload_n 1, 1) := by decide +kernel
theorem dX11_machine_167 : decode cX11_machine 167 = .ok (.putfield 119, 3) := by decide +kernel
theorem dX11_machine_170 : decode cX11_machine 170 = .ok (.bipush (-10), 2) := by decide +kernel
theorem dX11_machine_172 : decode cX11_machine 172 = .ok (.aload_n 0, 1) := by decide +kernel
theorem dX11_machine_173 : decode cX11_machine 173 = .ok (.getfield 132, 3) := by decide +kernel
theorem dX11_machine_176 : decode cX11_machine 176 = .ok (.isub, 1) := by decide +kernel
theorem dX11_machine_177 : decode cX11_machine 177 = .ok (.ireturn, 1) := by decide +kernel
theorem dX11_machine_178 : decode cX11_machine 178 = .ok (.iinc 2 1, 3) := by decide +kernel
theorem dX11_machine_181 : decode cX11_machine 181 = .ok (.aload_n 0, 1) := by decide +kernel
theorem dX11_machine_182 : decode cX11_machine 182 = .ok (.invokevirtual 138, 3) := by decide +kernel
theorem dX11_machine_185 : decode cX11_machine 185 = .ok (.goto (-111), 3) := by decide +kernel
theorem dX11_machine_188 : decode cX11_machine 188 = .ok (.aload_n 0, 1) := by decide +kernel
theorem dX11_machine_189 : decode cX11_machine 189 = .ok (.invokevirtual 101, 3) := by decide +kernel
theorem dX11_machine_192 : decode cX11_machine 192 = .ok (.aload_n 0, 1) := by decide +kernel
theorem dX11_machine_193 : decode cX11_machine 193 = .ok (.iconst 0, 1) := by decide +kernel
theorem dX11_machine_194 : decode cX11_machine 194 = .ok (.putfield 126, 3) := by decide +kernel
theorem dX11_machine_197 : decode cX11_machine 197 = .ok (.iload_n 2, 1) := by decide +kernel
theorem dX11_machine_198 : decode cX11_machine 198 = .ok (.ireturn, 1) := by decide +kernel
theorem dX11_joins_0 : decode cX11_joins 0 = .ok (.aload_n 0, 1) := by decide +kernel
theorem dX11_joins_1 : decode cX11_joins 1 = .ok (.getfield 83, 3) := by decide +kernel
theorem dX11_joins_4 : decode cX11_joins 4 = .ok (.iload_n 1, 1) := by decide +kernel
theorem dX11_joins_5 : decode cX11_joins 5 = .ok (.iaload, 1) := by decide +kernel
theorem dX11_joins_6 : decode cX11_joins 6 = .ok (.istore_n 3, 1) := by decide +kernel
theorem dX11_joins_7 : decode cX11_joins 7 = .ok (.aload_n 0, 1) := by decide +kernel
theorem dX11_joins_8 : decode cX11_joins 8 = .ok (.getfield 83, 3) := by decide +kernel
theorem dX11_joins_11 : decode cX11_joins 11 = .ok (.iload_n 2, 1) := by decide +kernel
theorem dX11_joins_12 : decode cX11_joins 12 = .ok (.iaload, 1) := by decide +kernel
theorem dX11_joins_13 : decode cX11_joins 13 = .ok (.istore 4, 2) := by decide +kernel
theorem dX11_joins_15 : decode cX11_joins 15 = .ok (.iconst 0, 1) := by decide +kernel
theorem dX11_joins_16 : decode cX11_joins 16 = .ok (.istore 5, 2) := by decide +kernel
theorem dX11_joins_18 : decode cX11_joins 18 = .ok (.iload 5, 2) := by decide +kernel
theorem dX11_joins_20 : decode cX11_joins 20 = .ok (.aload_n 0, 1) := by decide +kernel
theorem dX11_joins_21 : decode cX11_joins 21 = .ok (.getfield 112, 3) := by decide +kernel
theorem dX11_joins_24 : decode cX11_joins 24 = .ok (.if_icmp .ge 39, 3) := by decide +kernel
theorem dX11_joins_27 : decode cX11_joins 27 = .ok (.aload_n 0, 1) := by decide +kernel
theorem dX11_joins_28 : decode cX11_joins 28 = .ok (.getfield 83, 3) := by decide +kernel
theorem dX11_joins_31 : decode cX11_joins 31 = .ok (.iload 5, 2) := by decide +kernel
theorem dX11_joins_33 : decode cX11_joins 33 = .ok (.aload_n 0, 1) := by decide +kernel
theorem dX11_joins_34 : decode cX11_joins 34 = .ok (.getfield 83, 3) := by decide +kernel
theorem dX11_joins_37 : decode cX11_joins 37 = .ok (.iload 5, 2) := by decide +kernel
theorem dX11_joins_39 : decode cX11_joins 39 = .ok (.iaload, 1) := by decide +kernel
theorem dX11_joins_40 : decode cX11_joins 40 = .ok (.iload_n 3, 1) := by decide +kernel
theorem dX11_joins_41 : decode cX11_joins 41 = .ok (.if_icmp .ne 8, 3) := by decide +kernel
theorem dX11_joins_44 : decode cX11_joins 44 = .ok (.iload 4, 2) := by decide +kernel
theorem dX11_joins_46 : decode cX11_joins 46 = .ok (.goto 10, 3) := by decide +kernel
theorem dX11_joins_49 : decode cX11_joins 49 = .ok (.aload_n 0, 1) := by decide +kernel
theorem dX11_joins_50 : decode cX11_joins 50 = .ok (.getfield 83, 3) := by decide +kernel
theorem dX11_joins_53 : decode cX11_joins 53 = .ok (.iload 5, 2) := by decide +kernel
theorem dX11_joins_55 : decode cX11_joins 55 = .ok (.iaload, 1) := by decide +kernel
theorem dX11_joins_56 : decode cX11_joins 56 = .ok (.iastore, 1) := by decide +kernel
theorem dX11_joins_57 : decode cX11_joins 57 = .ok (.iinc 5 1, 3) := by decide +kernel
theorem dX11_joins_60 : decode cX11_joins 60 = .ok (.goto (-42), 3) := by decide +kernel
end
section
theorem dX11_joins_63 : decode cX11_joins 63 = .ok (.return_, 1) := by decide +kernel
theorem dX11_areParted_0 : decode cX11_areParted 0 = .ok (.aload_n 0, 1) := by decide +kernel
theorem dX11_areParted_1 : decode cX11_areParted 1 = .ok (.getfield 38, 3) := by decide +kernel
theorem dX11_areParted_4 : decode cX11_areParted 4 = .ok (.iload_n 1, 1) := by decide +kernel
theorem dX11_areParted_5 : decode cX11_areParted 5 = .ok (.iaload, 1) := by decide +kernel
theorem dX11_areParted_6 : decode cX11_areParted 6 = .ok (.aload_n 0, 1) := by decide +kernel
theorem dX11_areParted_7 : decode cX11_areParted 7 = .ok (.getfield 38, 3) := by decide +kernel
theorem dX11_areParted_10 : decode cX11_areParted 10 = .ok (.iload_n 2, 1) := by decide +kernel
theorem dX11_areParted_11 : decode cX11_areParted 11 = .ok (.iaload, 1) := by decide +kernel
theorem dX11_areParted_12 : decode cX11_areParted 12 = .ok (.if_icmp .ne 92, 3) := by decide +kernel
theorem dX11_areParted_15 : decode cX11_areParted 15 = .ok (.aload_n 0, 1) := by decide +kernel
theorem dX11_areParted_16 : decode cX11_areParted 16 = .ok (.getfield 38, 3) := by decide +kernel
theorem dX11_areParted_19 : decode cX11_areParted 19 = .ok (.iload_n 1, 1) := by decide +kernel
theorem dX11_areParted_20 : decode cX11_areParted 20 = .ok (.iaload, 1) := by decide +kernel
theorem dX11_areParted_21 : decode cX11_areParted 21 = .ok (.iconst 4, 1) := by decide +kernel
theorem dX11_areParted_22 : decode cX11_areParted 22 = .ok (.if_icmp .lt 82, 3) := by decide +kernel
theorem dX11_areParted_25 : decode cX11_areParted 25 = .ok (.aload_n 0, 1) := by decide +kernel
theorem dX11_areParted_26 : decode cX11_areParted 26 = .ok (.getfield 83, 3) := by decide +kernel
theorem dX11_areParted_29 : decode cX11_areParted 29 = .ok (.iload_n 1, 1) := by decide +kernel
theorem dX11_areParted_30 : decode cX11_areParted 30 = .ok (.iaload, 1) := by decide +kernel
theorem dX11_areParted_31 : decode cX11_areParted 31 = .ok (.aload_n 0, 1) := by decide +kernel
theorem dX11_areParted_32 : decode cX11_areParted 32 = .ok (.getfield 83, 3) := by decide +kernel
theorem dX11_areParted_35 : decode cX11_areParted 35 = .ok (.iload_n 2, 1) := by decide +kernel
theorem dX11_areParted_36 : decode cX11_areParted 36 = .ok (.iaload, 1) := by decide +kernel
theorem dX11_areParted_37 : decode cX11_areParted 37 = .ok (.if_icmp .eq 67, 3) := by decide +kernel
theorem dX11_areParted_40 : decode cX11_areParted 40 = .ok (.aload_n 0, 1) := by decide +kernel
theorem dX11_areParted_41 : decode cX11_areParted 41 = .ok (.getfield 83, 3) := by decide +kernel
theorem dX11_areParted_44 : decode cX11_areParted 44 = .ok (.aload_n 0, 1) := by decide +kernel
theorem dX11_areParted_45 : decode cX11_areParted 45 = .ok (.getfield 41, 3) := by decide +kernel
theorem dX11_areParted_48 : decode cX11_areParted 48 = .ok (.iload_n 1, 1) := by decide +kernel
theorem dX11_areParted_49 : decode cX11_areParted 49 = .ok (.iaload, 1) := by decide +kernel
theorem dX11_areParted_50 : decode cX11_areParted 50 = .ok (.iaload, 1) := by decide +kernel
theorem dX11_areParted_51 : decode cX11_areParted 51 = .ok (.aload_n 0, 1) := by decide +kernel
theorem dX11_areParted_52 : decode cX11_areParted 52 = .ok (.getfield 83, 3) := by decide +kernel
theorem dX11_areParted_55 : decode cX11_areParted 55 = .ok (.aload_n 0, 1) := by decide +kernel
theorem dX11_areParted_56 : decode cX11_areParted 56 = .ok (.getfield 41, 3) := by decide +kernel
theorem dX11_areParted_59 : decode cX11_areParted 59 = .ok (.iload_n 2, 1) := by decide +kernel
theorem dX11_areParted_60 : decode cX11_areParted 60 = .ok (.iaload, 1) := by decide +kernel
theorem dX11_areParted_61 : decode cX11_areParted 61 = .ok (.iaload, 1) := by decide +kernel
theorem dX11_areParted_62 : decode cX11_areParted 62 = .ok (.if_icmp .ne 42, 3) := by decide +kernel
theorem dX11_areParted_65 : decode cX11_areParted 65 = .ok (.aload_n 0, 1) := by decide +kernel
theorem dX11_areParted_66 : decode cX11_areParted 66 = .ok (.getfield 38, 3) := by decide +kernel
theorem dX11_areParted_69 : decode cX11_areParted 69 = .ok (.iload_n 1, 1) := by decide +kernel
theorem dX11_areParted_70 : decode cX11_areParted 70 = .ok (.iaload, 1) := by decide +kernel
theorem dX11_areParted_71 : decode cX11_areParted 71 = .ok (.iconst 4, 1) := by decide +kernel
theorem dX11_areParted_72 : decode cX11_areParted 72 = .ok (.if_icmp .eq 28, 3) := by decide +kernel
theorem dX11_areParted_75 : decode cX11_areParted 75 = .ok (.aload_n 0, 1) := by decide +kernel
theorem dX11_areParted_76 : decode cX11_areParted 76 = .ok (.getfield 83, 3) := by decide +kernel
theorem dX11_areParted_79 : decode cX11_areParted 79 = .ok (.aload_n 0, 1) := by decide +kernel
theorem dX11_areParted_80 : decode cX11_areParted 80 = .ok (.getfield 44, 3) := by decide +kernel
theorem dX11_areParted_83 : decode cX11_areParted 83 = .ok (.iload_n 1, 1) := by decide +kernel
theorem dX11_areParted_84 : decode cX11_areParted 84 = .ok (.iaload, 1) := by decide +kernel
theorem dX11_areParted_85 : decode cX11_areParted 85 = .ok (.iaload, 1) := by decide +kernel
theorem dX11_areParted_86 : decode cX11_areParted 86 = .ok (.aload_n 0, 1) := by decide +kernel
theorem dX11_areParted_87 : decode cX11_areParted 87 = .ok (.getfield 83, 3) := by decide +kernel
theorem dX11_areParted_90 : decode cX11_areParted 90 = .ok (.aload_n 0, 1) := by decide +kernel
theorem dX11_areParted_91 : decode cX11_areParted 91 = .ok (.getfield 44, 3) := by decide +kernel
theorem dX11_areParted_94 : decode cX11_areParted 94 = .ok (.iload_n 2, 1) := by decide +kernel
theorem dX11_areParted_95 : decode cX11_areParted 95 = .ok (.iaload, 1) := by decide +kernel
theorem dX11_areParted_96 : decode cX11_areParted 96 = .ok (.iaload, 1) := by decide +kernel
theorem dX11_areParted_97 : decode cX11_areParted 97 = .ok (.if_icmp .ne 7, 3) := by decide +kernel
theorem dX11_areParted_100 : decode cX11_areParted 100 = .ok (.iconst 1, 1) := by decide +kernel
theorem dX11_areParted_101 : decode cX11_areParted 101 = .ok (.goto 4, 3) := by decide +kernel
theorem dX11_areParted_104 : decode cX11_areParted 104 = .ok (.iconst 0, 1) := by decide +kernel
theorem dX11_areParted_105 : decode cX11_areParted 105 = .ok (.ireturn, 1) := by decide +kernel
theorem dX11_laysSame_0 : decode cX11_laysSame 0 = .ok (.iconst 0, 1) := by decide +kernel
theorem dX11_laysSame_1 : decode cX11_laysSame 1 = .ok (.istore 4, 2) := by decide +kernel
theorem dX11_laysSame_3 : decode cX11_laysSame 3 = .ok (.iload 4, 2) := by decide +kernel
theorem dX11_laysSame_5 : decode cX11_laysSame 5 = .ok (.aload_n 0, 1) := by decide +kernel
theorem dX11_laysSame_6 : decode cX11_laysSame 6 = .ok (.getfield 112, 3) := by decide +kernel
theorem dX11_laysSame_9 : decode cX11_laysSame 9 = .ok (.if_icmp .ge 18, 3) := by decide +kernel
theorem dX11_laysSame_12 : decode cX11_laysSame 12 = .ok (.aload_n 0, 1) := by decide +kernel
theorem dX11_laysSame_13 : decode cX11_laysSame 13 = .ok (.getfield 83, 3) := by decide +kernel
theorem dX11_laysSame_16 : decode cX11_laysSame 16 = .ok (.iload 4, 2) := by decide +kernel
theorem dX11_laysSame_18 : decode cX11_laysSame 18 = .ok (.iload 4, 2) := by decide +kernel
theorem dX11_laysSame_20 : decode cX11_laysSame 20 = .ok (.iastore, 1) := by decide +kernel
theorem dX11_laysSame_21 : decode cX11_laysSame 21 = .ok (.iinc 4 1, 3) := by decide +kernel
theorem dX11_laysSame_24 : decode cX11_laysSame 24 = .ok (.goto (-21), 3) := by decide +kernel
theorem dX11_laysSame_27 : decode cX11_laysSame 27 = .ok (.iconst 0, 1) := by decide +kernel
theorem dX11_laysSame_28 : decode cX11_laysSame 28 = .ok (.istore 4, 2) := by decide +kernel
theorem dX11_laysSame_30 : decode cX11_laysSame 30 = .ok (.iload 4, 2) := by decide +kernel
theorem dX11_laysSame_32 : decode cX11_laysSame 32 = .ok (.aload_n 0, 1) := by decide +kernel
theorem dX11_laysSame_33 : decode cX11_laysSame 33 = .ok (.getfield 162, 3) := by decide +kernel
theorem dX11_laysSame_36 : decode cX11_laysSame 36 = .ok (.if_icmp .ge 46, 3) := by decide +kernel
theorem dX11_laysSame_39 : decode cX11_laysSame 39 = .ok (.iload_n 1, 1) := by decide +kernel
theorem dX11_laysSame_40 : decode cX11_laysSame 40 = .ok (.iload 4, 2) := by decide +kernel
theorem dX11_laysSame_42 : decode cX11_laysSame 42 = .ok (.invokestatic 108, 3) := by decide +kernel
theorem dX11_laysSame_45 : decode cX11_laysSame 45 = .ok (.ifCond .eq 31, 3) := by decide +kernel
theorem dX11_laysSame_48 : decode cX11_laysSame 48 = .ok (.aload_n 0, 1) := by decide +kernel
theorem dX11_laysSame_49 : decode cX11_laysSame 49 = .ok (.getfield 7, 3) := by decide +kernel
theorem dX11_laysSame_52 : decode cX11_laysSame 52 = .ok (.iload 4, 2) := by decide +kernel
theorem dX11_laysSame_54 : decode cX11_laysSame 54 = .ok (.baload, 1) := by decide +kernel
theorem dX11_laysSame_55 : decode cX11_laysSame 55 = .ok (.ifCond .ne 21, 3) := by decide +kernel
theorem dX11_laysSame_58 : decode cX11_laysSame 58 = .ok (.aload_n 0, 1) := by decide +kernel
theorem dX11_laysSame_59 : decode cX11_laysSame 59 = .ok (.aload_n 0, 1) := by decide +kernel
theorem dX11_laysSame_60 : decode cX11_laysSame 60 = .ok (.getfield 13, 3) := by decide +kernel
theorem dX11_laysSame_63 : decode cX11_laysSame 63 = .ok (.iload 4, 2) := by decide +kernel
theorem dX11_laysSame_65 : decode cX11_laysSame 65 = .ok (.iaload, 1) := by decide +kernel
theorem dX11_laysSame_66 : decode cX11_laysSame 66 = .ok (.aload_n 0, 1) := by decide +kernel
theorem dX11_laysSame_67 : decode cX11_laysSame 67 = .ok (.getfield 17, 3) := by decide +kernel
theorem dX11_laysSame_70 : decode cX11_laysSame 70 = .ok (.iload 4, 2) := by decide +kernel
theorem dX11_laysSame_72 : decode cX11_laysSame 72 = .ok (.iaload, 1) := by decide +kernel
theorem dX11_laysSame_73 : decode cX11_laysSame 73 = .ok (.invokevirtual 175, 3) := by decide +kernel
theorem dX11_laysSame_76 : decode cX11_laysSame 76 = .ok (.iinc 4 1, 3) := by decide +kernel
theorem dX11_laysSame_79 : decode cX11_laysSame 79 = .ok (.goto (-49), 3) := by decide +kernel
theorem dX11_laysSame_82 : decode cX11_laysSame 82 = .ok (.aload_n 0, 1) := by decide +kernel
theorem dX11_laysSame_83 : decode cX11_laysSame 83 = .ok (.iload_n 2, 1) := by decide +kernel
theorem dX11_laysSame_84 : decode cX11_laysSame 84 = .ok (.iload_n 3, 1) := by decide +kernel
theorem dX11_laysSame_85 : decode cX11_laysSame 85 = .ok (.invokevirtual 175, 3) := by decide +kernel
theorem dX11_laysSame_88 : decode cX11_laysSame 88 = .ok (.iconst 1, 1) := by decide +kernel
theorem dX11_laysSame_89 : decode cX11_laysSame 89 = .ok (.istore 4, 2) := by decide +kernel
theorem dX11_laysSame_91 : decode cX11_laysSame 91 = .ok (.iload 4, 2) := by decide +kernel
theorem dX11_laysSame_93 : decode cX11_laysSame 93 = .ok (.ifCond .eq 74, 3) := by decide +kernel
theorem dX11_laysSame_96 : decode cX11_laysSame 96 = .ok (.iconst 0, 1) := by decide +kernel
theorem dX11_laysSame_97 : decode cX11_laysSame 97 = .ok (.istore 4, 2) := by decide +kernel
theorem dX11_laysSame_99 : decode cX11_laysSame 99 = .ok (.iconst 0, 1) := by decide +kernel
theorem dX11_laysSame_100 : decode cX11_laysSame 100 = .ok (.istore 5, 2) := by decide +kernel
theorem dX11_laysSame_102 : decode cX11_laysSame 102 = .ok (.iload 5, 2) := by decide +kernel
theorem dX11_laysSame_104 : decode cX11_laysSame 104 = .ok (.aload_n 0, 1) := by decide +kernel
theorem dX11_laysSame_105 : decode cX11_laysSame 105 = .ok (.getfield 112, 3) := by decide +kernel
theorem dX11_laysSame_108 : decode cX11_laysSame 108 = .ok (.aload_n 0, 1) := by decide +kernel
theorem dX11_laysSame_109 : decode cX11_laysSame 109 = .ok (.getfield 112, 3) := by decide +kernel
theorem dX11_laysSame_112 : decode cX11_laysSame 112 = .ok (.imul, 1) := by decide +kernel
theorem dX11_laysSame_113 : decode cX11_laysSame 113 = .ok (.if_icmp .ge 51, 3) := by decide +kernel
theorem dX11_laysSame_116 : decode cX11_laysSame 116 = .ok (.aload_n 0, 1) := by decide +kernel
theorem dX11_laysSame_117 : decode cX11_laysSame 117 = .ok (.iload 5, 2) := by decide +kernel
theorem dX11_laysSame_119 : decode cX11_laysSame 119 = .ok (.aload_n 0, 1) := by decide +kernel
theorem dX11_laysSame_120 : decode cX11_laysSame 120 = .ok (.getfield 112, 3) := by decide +kernel
theorem dX11_laysSame_123 : decode cX11_laysSame 123 = .ok (.idiv, 1) := by decide +kernel
theorem dX11_laysSame_124 : decode cX11_laysSame 124 = .ok (.iload 5, 2) := by decide +kernel
theorem dX11_laysSame_126 : decode cX11_laysSame 126 = .ok (.aload_n 0, 1) := by decide +kernel
theorem dX11_laysSame_127 : decode cX11_laysSame 127 = .ok (.getfield 112, 3) := by decide +kernel
theorem dX11_laysSame_130 : decode cX11_laysSame 130 = .ok (.irem, 1) := by decide +kernel
theorem dX11_laysSame_131 : decode cX11_laysSame 131 = .ok (.invokevirtual 179, 3) := by decide +kernel
theorem dX11_laysSame_134 : decode cX11_laysSame 134 = .ok (.ifCond .eq 24, 3) := by decide +kernel
theorem dX11_laysSame_137 : decode cX11_laysSame 137 = .ok (.aload_n 0, 1) := by decide +kernel
theorem dX11_laysSame_138 : decode cX11_laysSame 138 = .ok (.iload 5, 2) := by decide +kernel
theorem dX11_laysSame_140 : decode cX11_laysSame 140 = .ok (.aload_n 0, 1) := by decide +kernel
theorem dX11_laysSame_141 : decode cX11_laysSame 141 = .ok (.getfield 112, 3) := by decide +kernel
theorem dX11_laysSame_144 : decode cX11_laysSame 144 = .ok (.idiv, 1) := by decide +kernel
theorem dX11_laysSame_145 : decode cX11_laysSame 145 = .ok (.iload 5, 2) := by decide +kernel
theorem dX11_laysSame_147 : decode cX11_laysSame 147 = .ok (.aload_n 0, 1) := by decide +kernel
theorem dX11_laysSame_148 : decode cX11_laysSame 148 = .ok (.getfield 112, 3) := by decide +kernel
theorem dX11_laysSame_151 : decode cX11_laysSame 151 = .ok (.irem, 1) := by decide +kernel
theorem dX11_laysSame_152 : decode cX11_laysSame 152 = .ok (.invokevirtual 175, 3) := by decide +kernel
theorem dX11_laysSame_155 : decode cX11_laysSame 155 = .ok (.iconst 1, 1) := by decide +kernel
theorem dX11_laysSame_156 : decode cX11_laysSame 156 = .ok (.istore 4, 2) := by decide +kernel
theorem dX11_laysSame_158 : decode cX11_laysSame 158 = .ok (.iinc 5 1, 3) := by decide +kernel
theorem dX11_laysSame_161 : decode cX11_laysSame 161 = .ok (.goto (-59), 3) := by decide +kernel
theorem dX11_laysSame_164 : decode cX11_laysSame 164 = .ok (.goto (-73), 3) := by decide +kernel
theorem dX11_laysSame_167 : decode cX11_laysSame 167 = .ok (.return_, 1) := by decide +kernel
theorem dX11_isRuledOut_0 : decode cX11_isRuledOut 0 = .ok (.iconst 0, 1) := by decide +kernel
theorem dX11_isRuledOut_1 : decode cX11_isRuledOut 1 = .ok (.istore_n 2, 1) := by decide +kernel
theorem dX11_isRuledOut_2 : decode cX11_isRuledOut 2 = .ok (.iconst 0, 1) := by decide +kernel
theorem dX11_isRuledOut_3 : decode cX11_isRuledOut 3 = .ok (.istore_n 3, 1) := by decide +kernel
theorem dX11_isRuledOut_4 : decode cX11_isRuledOut 4 = .ok (.iload_n 3, 1) := by decide +kernel
theorem dX11_isRuledOut_5 : decode cX11_isRuledOut 5 = .ok (.aload_n 0, 1) := by decide +kernel
theorem dX11_isRuledOut_6 : decode cX11_isRuledOut 6 = .ok (.getfield 162, 3) := by decide +kernel
theorem dX11_isRuledOut_9 : decode cX11_isRuledOut 9 = .ok (.if_icmp .ge 61, 3) := by decide +kernel
theorem dX11_isRuledOut_12 : decode cX11_isRuledOut 12 = .ok (.iload_n 2, 1) := by decide +kernel
theorem dX11_isRuledOut_13 : decode cX11_isRuledOut 13 = .ok (.ifCond .ne 45, 3) := by decide +kernel
theorem dX11_isRuledOut_16 : decode cX11_isRuledOut 16 = .ok (.iload_n 1, 1) := by decide +kernel
theorem dX11_isRuledOut_17 : decode cX11_isRuledOut 17 = .ok (.iload_n 3, 1) := by decide +kernel
theorem dX11_isRuledOut_18 : decode cX11_isRuledOut 18 = .ok (.invokestatic 108, 3) := by decide +kernel
theorem dX11_isRuledOut_21 : decode cX11_isRuledOut 21 = .ok (.ifCond .eq 41, 3) := by decide +kernel
theorem dX11_isRuledOut_24 : decode cX11_isRuledOut 24 = .ok (.aload_n 0, 1) := by decide +kernel
theorem dX11_isRuledOut_25 : decode cX11_isRuledOut 25 = .ok (.getfield 7, 3) := by decide +kernel
theorem dX11_isRuledOut_28 : decode cX11_isRuledOut 28 = .ok (.iload_n 3, 1) := by decide +kernel
theorem dX11_isRuledOut_29 : decode cX11_isRuledOut 29 = .ok (.baload, 1) := by decide +kernel
theorem dX11_isRuledOut_30 : decode cX11_isRuledOut 30 = .ok (.ifCond .eq 32, 3) := by decide +kernel
theorem dX11_isRuledOut_33 : decode cX11_isRuledOut 33 = .ok (.aload_n 0, 1) := by decide +kernel
theorem dX11_isRuledOut_34 : decode cX11_isRuledOut 34 = .ok (.getfield 83, 3) := by decide +kernel
theorem dX11_isRuledOut_37 : decode cX11_isRuledOut 37 = .ok (.aload_n 0, 1) := by decide +kernel
theorem dX11_isRuledOut_38 : decode cX11_isRuledOut 38 = .ok (.getfield 13, 3) := by decide +kernel
theorem dX11_isRuledOut_41 : decode cX11_isRuledOut 41 = .ok (.iload_n 3, 1) := by decide +kernel
theorem dX11_isRuledOut_42 : decode cX11_isRuledOut 42 = .ok (.iaload, 1) := by decide +kernel
theorem dX11_isRuledOut_43 : decode cX11_isRuledOut 43 = .ok (.iaload, 1) := by decide +kernel
theorem dX11_isRuledOut_44 : decode cX11_isRuledOut 44 = .ok (.aload_n 0, 1) := by decide +kernel
theorem dX11_isRuledOut_45 : decode cX11_isRuledOut 45 = .ok (.getfield 83, 3) := by decide +kernel
theorem dX11_isRuledOut_48 : decode cX11_isRuledOut 48 = .ok (.aload_n 0, 1) := by decide +kernel
theorem dX11_isRuledOut_49 : decode cX11_isRuledOut 49 = .ok (.getfield 17, 3) := by decide +kernel
theorem dX11_isRuledOut_52 : decode cX11_isRuledOut 52 = .ok (.iload_n 3, 1) := by decide +kernel
theorem dX11_isRuledOut_53 : decode cX11_isRuledOut 53 = .ok (.iaload, 1) := by decide +kernel
theorem dX11_isRuledOut_54 : decode cX11_isRuledOut 54 = .ok (.iaload, 1) := by decide +kernel
theorem dX11_isRuledOut_55 : decode cX11_isRuledOut 55 = .ok (.if_icmp .ne 7, 3) := by decide +kernel
theorem dX11_isRuledOut_58 : decode cX11_isRuledOut 58 = .ok (.iconst 1, 1) := by decide +kernel
theorem dX11_isRuledOut_59 : decode cX11_isRuledOut 59 = .ok (.goto 4, 3) := by decide +kernel
theorem dX11_isRuledOut_62 : decode cX11_isRuledOut 62 = .ok (.iconst 0, 1) := by decide +kernel
theorem dX11_isRuledOut_63 : decode cX11_isRuledOut 63 = .ok (.istore_n 2, 1) := by decide +kernel
theorem dX11_isRuledOut_64 : decode cX11_isRuledOut 64 = .ok (.iinc 3 1, 3) := by decide +kernel
theorem dX11_isRuledOut_67 : decode cX11_isRuledOut 67 = .ok (.goto (-63), 3) := by decide +kernel
theorem dX11_isRuledOut_70 : decode cX11_isRuledOut 70 = .ok (.iload_n 2, 1) := by decide +kernel
theorem dX11_isRuledOut_71 : decode cX11_isRuledOut 71 = .ok (.ireturn, 1) := by decide +kernel
theorem dX11_equalOf_0 : decode cX11_equalOf 0 = .ok (.aload_n 0, 1) := by decide +kernel
theorem dX11_equalOf_1 : decode cX11_equalOf 1 = .ok (.iload_n 1, 1) := by decide +kernel
theorem dX11_equalOf_2 : decode cX11_equalOf 2 = .ok (.iconst 0, 1) := by decide +kernel
theorem dX11_equalOf_3 : decode cX11_equalOf 3 = .ok (.iconst 0, 1) := by decide +kernel
theorem dX11_equalOf_4 : decode cX11_equalOf 4 = .ok (.invokevirtual 182, 3) := by decide +kernel
theorem dX11_equalOf_7 : decode cX11_equalOf 7 = .ok (.aload_n 0, 1) := by decide +kernel
theorem dX11_equalOf_8 : decode cX11_equalOf 8 = .ok (.iload_n 1, 1) := by decide +kernel
theorem dX11_equalOf_9 : decode cX11_equalOf 9 = .ok (.invokevirtual 186, 3) := by decide +kernel
theorem dX11_equalOf_12 : decode cX11_equalOf 12 = .ok (.ifCond .ne 18, 3) := by decide +kernel
theorem dX11_equalOf_15 : decode cX11_equalOf 15 = .ok (.aload_n 0, 1) := by decide +kernel
theorem dX11_equalOf_16 : decode cX11_equalOf 16 = .ok (.getfield 83, 3) := by decide +kernel
theorem dX11_equalOf_19 : decode cX11_equalOf 19 = .ok (.iload_n 2, 1) := by decide +kernel
theorem dX11_equalOf_20 : decode cX11_equalOf 20 = .ok (.iaload, 1) := by decide +kernel
theorem dX11_equalOf_21 : decode cX11_equalOf 21 = .ok (.aload_n 0, 1) := by decide +kernel
theorem dX11_equalOf_22 : decode cX11_equalOf 22 = .ok (.getfield 83, 3) := by decide +kernel
theorem dX11_equalOf_25 : decode cX11_equalOf 25 = .ok (.iload_n 3, 1) := by decide +kernel
theorem dX11_equalOf_26 : decode cX11_equalOf 26 = .ok (.iaload, 1) := by decide +kernel
theorem dX11_equalOf_27 : decode cX11_equalOf 27 = .ok (.if_icmp .ne 5, 3) := by decide +kernel
theorem dX11_equalOf_30 : decode cX11_equalOf 30 = .ok (.iconst 1, 1) := by decide +kernel
theorem dX11_equalOf_31 : decode cX11_equalOf 31 = .ok (.ireturn, 1) := by decide +kernel
theorem dX11_equalOf_32 : decode cX11_equalOf 32 = .ok (.aload_n 0, 1) := by decide +kernel
theorem dX11_equalOf_33 : decode cX11_equalOf 33 = .ok (.iload_n 1, 1) := by decide +kernel
theorem dX11_equalOf_34 : decode cX11_equalOf 34 = .ok (.iload_n 2, 1) := by decide +kernel
theorem dX11_equalOf_35 : decode cX11_equalOf 35 = .ok (.iload_n 3, 1) := by decide +kernel
theorem dX11_equalOf_36 : decode cX11_equalOf 36 = .ok (.invokevirtual 182, 3) := by decide +kernel
theorem dX11_equalOf_39 : decode cX11_equalOf 39 = .ok (.aload_n 0, 1) := by decide +kernel
theorem dX11_equalOf_40 : decode cX11_equalOf 40 = .ok (.iload_n 1, 1) := by decide +kernel
theorem dX11_equalOf_41 : decode cX11_equalOf 41 = .ok (.invokevirtual 186, 3) := by decide +kernel
theorem dX11_equalOf_44 : decode cX11_equalOf 44 = .ok (.ifCond .eq 7, 3) := by decide +kernel
theorem dX11_equalOf_47 : decode cX11_equalOf 47 = .ok (.iconst 2, 1) := by decide +kernel
theorem dX11_equalOf_48 : decode cX11_equalOf 48 = .ok (.goto 4, 3) := by decide +kernel
theorem dX11_equalOf_51 : decode cX11_equalOf 51 = .ok (.iconst 0, 1) := by decide +kernel
theorem dX11_equalOf_52 : decode cX11_equalOf 52 = .ok (.ireturn, 1) := by decide +kernel
theorem dX11_its_0 : decode cX11_its 0 = .ok (.aload_n 0, 1) := by decide +kernel
theorem dX11_its_1 : decode cX11_its 1 = .ok (.getfield 20, 3) := by decide +kernel
theorem dX11_its_4 : decode cX11_its 4 = .ok (.iconst 1, 1) := by decide +kernel
theorem dX11_its_5 : decode cX11_its 5 = .ok (.iconst 4, 1) := by decide +kernel
theorem dX11_its_6 : decode cX11_its 6 = .ok (.iload_n 1, 1) := by decide +kernel
theorem dX11_its_7 : decode cX11_its 7 = .ok (.imul, 1) := by decide +kernel
theorem dX11_its_8 : decode cX11_its 8 = .ok (.iadd, 1) := by decide +kernel
theorem dX11_its_9 : decode cX11_its 9 = .ok (.iload_n 2, 1) := by decide +kernel
theorem dX11_its_10 : decode cX11_its 10 = .ok (.iadd, 1) := by decide +kernel
theorem dX11_its_11 : decode cX11_its 11 = .ok (.iaload, 1) := by decide +kernel
theorem dX11_its_12 : decode cX11_its 12 = .ok (.ireturn, 1) := by decide +kernel
theorem dX11_makes_0 : decode cX11_makes 0 = .ok (.aload_n 0, 1) := by decide +kernel
theorem dX11_makes_1 : decode cX11_makes 1 = .ok (.iload_n 1, 1) := by decide +kernel
theorem dX11_makes_2 : decode cX11_makes 2 = .ok (.iconst 0, 1) := by decide +kernel
theorem dX11_makes_3 : decode cX11_makes 3 = .ok (.invokevirtual 189, 3) := by decide +kernel
theorem dX11_makes_6 : decode cX11_makes 6 = .ok (.ifCond .le 17, 3) := by decide +kernel
theorem dX11_makes_9 : decode cX11_makes 9 = .ok (.aload_n 0, 1) := by decide +kernel
theorem dX11_makes_10 : decode cX11_makes 10 = .ok (.iload_n 1, 1) := by decide +kernel
theorem dX11_makes_11 : decode cX11_makes 11 = .ok (.iconst 1, 1) := by decide +kernel
theorem dX11_makes_12 : decode cX11_makes 12 = .ok (.invokevirtual 189, 3) := by decide +kernel
theorem dX11_makes_15 : decode cX11_makes 15 = .ok (.iload_n 2, 1) := by decide +kernel
theorem dX11_makes_16 : decode cX11_makes 16 = .ok (.if_icmp .ne 7, 3) := by decide +kernel
theorem dX11_makes_19 : decode cX11_makes 19 = .ok (.iconst 1, 1) := by decide +kernel
theorem dX11_makes_20 : decode cX11_makes 20 = .ok (.goto 4, 3) := by decide +kernel
theorem dX11_makes_23 : decode cX11_makes 23 = .ok (.iconst 0, 1) := by decide +kernel
theorem dX11_makes_24 : decode cX11_makes 24 = .ok (.ireturn, 1) := by decide +kernel
theorem dX11_isVisible_0 : decode cX11_isVisible 0 = .ok (.iload_n 1, 1) := by decide +kernel
theorem dX11_isVisible_1 : decode cX11_isVisible 1 = .ok (.aload_n 0, 1) := by decide +kernel
theorem dX11_isVisible_2 : decode cX11_isVisible 2 = .ok (.getfield 20, 3) := by decide +kernel
theorem dX11_isVisible_5 : decode cX11_isVisible 5 = .ok (.bipush 26, 2) := by decide +kernel
theorem dX11_isVisible_7 : decode cX11_isVisible 7 = .ok (.iaload, 1) := by decide +kernel
theorem dX11_isVisible_8 : decode cX11_isVisible 8 = .ok (.if_icmp .gt 22, 3) := by decide +kernel
theorem dX11_isVisible_11 : decode cX11_isVisible 11 = .ok (.iload_n 1, 1) := by decide +kernel
theorem dX11_isVisible_12 : decode cX11_isVisible 12 = .ok (.iconst 4, 1) := by decide +kernel
theorem dX11_isVisible_13 : decode cX11_isVisible 13 = .ok (.if_icmp .ge 21, 3) := by decide +kernel
theorem dX11_isVisible_16 : decode cX11_isVisible 16 = .ok (.iload_n 1, 1) := by decide +kernel
theorem dX11_isVisible_17 : decode cX11_isVisible 17 = .ok (.ifCond .le 17, 3) := by decide +kernel
theorem dX11_isVisible_20 : decode cX11_isVisible 20 = .ok (.iload_n 2, 1) := by decide +kernel
theorem dX11_isVisible_21 : decode cX11_isVisible 21 = .ok (.iload_n 1, 1) := by decide +kernel
theorem dX11_isVisible_22 : decode cX11_isVisible 22 = .ok (.iconst 1, 1) := by decide +kernel
theorem dX11_isVisible_23 : decode cX11_isVisible 23 = .ok (.isub, 1) := by decide +kernel
theorem dX11_isVisible_24 : decode cX11_isVisible 24 = .ok (.invokestatic 108, 3) := by decide +kernel
theorem dX11_isVisible_27 : decode cX11_isVisible 27 = .ok (.ifCond .eq 7, 3) := by decide +kernel
theorem dX11_isVisible_30 : decode cX11_isVisible 30 = .ok (.iconst 1, 1) := by decide +kernel
theorem dX11_isVisible_31 : decode cX11_isVisible 31 = .ok (.goto 4, 3) := by decide +kernel
theorem dX11_isVisible_34 : decode cX11_isVisible 34 = .ok (.iconst 0, 1) := by decide +kernel
theorem dX11_isVisible_35 : decode cX11_isVisible 35 = .ok (.ireturn, 1) := by decide +kernel
theorem dX11_latest_0 : decode cX11_latest 0 = .ok (.iload_n 1, 1) := by decide +kernel
theorem dX11_latest_1 : decode cX11_latest 1 = .ok (.iconst 1, 1) := by decide +kernel
theorem dX11_latest_2 : decode cX11_latest 2 = .ok (.isub, 1) := by decide +kernel
theorem dX11_latest_3 : decode cX11_latest 3 = .ok (.istore_n 3, 1) := by decide +kernel
theorem dX11_latest_4 : decode cX11_latest 4 = .ok (.iload_n 3, 1) := by decide +kernel
theorem dX11_latest_5 : decode cX11_latest 5 = .ok (.ifCond .lt 18, 3) := by decide +kernel
theorem dX11_latest_8 : decode cX11_latest 8 = .ok (.aload_n 0, 1) := by decide +kernel
theorem dX11_latest_9 : decode cX11_latest 9 = .ok (.iload_n 3, 1) := by decide +kernel
theorem dX11_latest_10 : decode cX11_latest 10 = .ok (.iload_n 2, 1) := by decide +kernel
theorem dX11_latest_11 : decode cX11_latest 11 = .ok (.invokevirtual 193, 3) := by decide +kernel
theorem dX11_latest_14 : decode cX11_latest 14 = .ok (.ifCond .ne 9, 3) := by decide +kernel
theorem dX11_latest_17 : decode cX11_latest 17 = .ok (.iinc 3 (-1), 3) := by decide +kernel
theorem dX11_latest_20 : decode cX11_latest 20 = .ok (.goto (-16), 3) := by decide +kernel
theorem dX11_latest_23 : decode cX11_latest 23 = .ok (.iload_n 3, 1) := by decide +kernel
theorem dX11_latest_24 : decode cX11_latest 24 = .ok (.ireturn, 1) := by decide +kernel
theorem dX11_hasIt_0 : decode cX11_hasIt 0 = .ok (.aload_n 0, 1) := by decide +kernel
theorem dX11_hasIt_1 : decode cX11_hasIt 1 = .ok (.iload_n 1, 1) := by decide +kernel
theorem dX11_hasIt_2 : decode cX11_hasIt 2 = .ok (.iload_n 3, 1) := by decide +kernel
theorem dX11_hasIt_3 : decode cX11_hasIt 3 = .ok (.invokevirtual 196, 3) := by decide +kernel
theorem dX11_hasIt_6 : decode cX11_hasIt 6 = .ok (.istore 5, 2) := by decide +kernel
theorem dX11_hasIt_8 : decode cX11_hasIt 8 = .ok (.iload 5, 2) := by decide +kernel
theorem dX11_hasIt_10 : decode cX11_hasIt 10 = .ok (.ifCond .lt 21, 3) := by decide +kernel
theorem dX11_hasIt_13 : decode cX11_hasIt 13 = .ok (.aload_n 0, 1) := by decide +kernel
theorem dX11_hasIt_14 : decode cX11_hasIt 14 = .ok (.iload_n 2, 1) := by decide +kernel
theorem dX11_hasIt_15 : decode cX11_hasIt 15 = .ok (.aload_n 0, 1) := by decide +kernel
theorem dX11_hasIt_16 : decode cX11_hasIt 16 = .ok (.getfield 86, 3) := by decide +kernel
theorem dX11_hasIt_19 : decode cX11_hasIt 19 = .ok (.iload 5, 2) := by decide +kernel
theorem dX11_hasIt_21 : decode cX11_hasIt 21 = .ok (.iaload, 1) := by decide +kernel
theorem dX11_hasIt_22 : decode cX11_hasIt 22 = .ok (.isub, 1) := by decide +kernel
theorem dX11_hasIt_23 : decode cX11_hasIt 23 = .ok (.iload 4, 2) := by decide +kernel
theorem dX11_hasIt_25 : decode cX11_hasIt 25 = .ok (.invokevirtual 199, 3) := by decide +kernel
theorem dX11_hasIt_28 : decode cX11_hasIt 28 = .ok (.ifCond .eq 7, 3) := by decide +kernel
theorem dX11_hasIt_31 : decode cX11_hasIt 31 = .ok (.iconst 1, 1) := by decide +kernel
theorem dX11_hasIt_32 : decode cX11_hasIt 32 = .ok (.goto 4, 3) := by decide +kernel
theorem dX11_hasIt_35 : decode cX11_hasIt 35 = .ok (.iconst 0, 1) := by decide +kernel
theorem dX11_hasIt_36 : decode cX11_hasIt 36 = .ok (.ireturn, 1) := by decide +kernel
theorem dX11_mayGo_0 : decode cX11_mayGo 0 = .ok (.aload_n 0, 1) := by decide +kernel
theorem dX11_mayGo_1 : decode cX11_mayGo 1 = .ok (.iload_n 1, 1) := by decide +kernel
theorem dX11_mayGo_2 : decode cX11_mayGo 2 = .ok (.iconst 0, 1) := by decide +kernel
theorem dX11_mayGo_3 : decode cX11_mayGo 3 = .ok (.invokevirtual 189, 3) := by decide +kernel
theorem dX11_mayGo_6 : decode cX11_mayGo 6 = .ok (.istore 4, 2) := by decide +kernel
theorem dX11_mayGo_8 : decode cX11_mayGo 8 = .ok (.iload 4, 2) := by decide +kernel
theorem dX11_mayGo_10 : decode cX11_mayGo 10 = .ok (.iconst 1, 1) := by decide +kernel
theorem dX11_mayGo_11 : decode cX11_mayGo 11 = .ok (.if_icmp .lt 19, 3) := by decide +kernel
theorem dX11_mayGo_14 : decode cX11_mayGo 14 = .ok (.aload_n 0, 1) := by decide +kernel
theorem dX11_mayGo_15 : decode cX11_mayGo 15 = .ok (.iload_n 1, 1) := by decide +kernel
theorem dX11_mayGo_16 : decode cX11_mayGo 16 = .ok (.iload_n 2, 1) := by decide +kernel
theorem dX11_mayGo_17 : decode cX11_mayGo 17 = .ok (.aload_n 0, 1) := by decide +kernel
theorem dX11_mayGo_18 : decode cX11_mayGo 18 = .ok (.iload_n 1, 1) := by decide +kernel
theorem dX11_mayGo_19 : decode cX11_mayGo 19 = .ok (.iconst 2, 1) := by decide +kernel
theorem dX11_mayGo_20 : decode cX11_mayGo 20 = .ok (.invokevirtual 189, 3) := by decide +kernel
theorem dX11_mayGo_23 : decode cX11_mayGo 23 = .ok (.iload_n 3, 1) := by decide +kernel
theorem dX11_mayGo_24 : decode cX11_mayGo 24 = .ok (.invokevirtual 202, 3) := by decide +kernel
theorem dX11_mayGo_27 : decode cX11_mayGo 27 = .ok (.ifCond .eq 29, 3) := by decide +kernel
theorem dX11_mayGo_30 : decode cX11_mayGo 30 = .ok (.iload 4, 2) := by decide +kernel
theorem dX11_mayGo_32 : decode cX11_mayGo 32 = .ok (.iconst 2, 1) := by decide +kernel
theorem dX11_mayGo_33 : decode cX11_mayGo 33 = .ok (.if_icmp .lt 19, 3) := by decide +kernel
theorem dX11_mayGo_36 : decode cX11_mayGo 36 = .ok (.aload_n 0, 1) := by decide +kernel
theorem dX11_mayGo_37 : decode cX11_mayGo 37 = .ok (.iload_n 1, 1) := by decide +kernel
theorem dX11_mayGo_38 : decode cX11_mayGo 38 = .ok (.iload_n 2, 1) := by decide +kernel
theorem dX11_mayGo_39 : decode cX11_mayGo 39 = .ok (.aload_n 0, 1) := by decide +kernel
theorem dX11_mayGo_40 : decode cX11_mayGo 40 = .ok (.iload_n 1, 1) := by decide +kernel
theorem dX11_mayGo_41 : decode cX11_mayGo 41 = .ok (.iconst 3, 1) := by decide +kernel
theorem dX11_mayGo_42 : decode cX11_mayGo 42 = .ok (.invokevirtual 189, 3) := by decide +kernel
theorem dX11_mayGo_45 : decode cX11_mayGo 45 = .ok (.iload_n 3, 1) := by decide +kernel
theorem dX11_mayGo_46 : decode cX11_mayGo 46 = .ok (.invokevirtual 202, 3) := by decide +kernel
theorem dX11_mayGo_49 : decode cX11_mayGo 49 = .ok (.ifCond .eq 7, 3) := by decide +kernel
theorem dX11_mayGo_52 : decode cX11_mayGo 52 = .ok (.iconst 1, 1) := by decide +kernel
theorem dX11_mayGo_53 : decode cX11_mayGo 53 = .ok (.goto 4, 3) := by decide +kernel
theorem dX11_mayGo_56 : decode cX11_mayGo 56 = .ok (.iconst 0, 1) := by decide +kernel
theorem dX11_mayGo_57 : decode cX11_mayGo 57 = .ok (.ireturn, 1) := by decide +kernel
theorem dX11_laysSteps_0 : decode cX11_laysSteps 0 = .ok (.iconst 0, 1) := by decide +kernel
theorem dX11_laysSteps_1 : decode cX11_laysSteps 1 = .ok (.istore_n 3, 1) := by decide +kernel
theorem dX11_laysSteps_2 : decode cX11_laysSteps 2 = .ok (.iload_n 3, 1) := by decide +kernel
theorem dX11_laysSteps_3 : decode cX11_laysSteps 3 = .ok (.aload_n 0, 1) := by decide +kernel
theorem dX11_laysSteps_4 : decode cX11_laysSteps 4 = .ok (.getfield 20, 3) := by decide +kernel
theorem dX11_laysSteps_7 : decode cX11_laysSteps 7 = .ok (.iconst 0, 1) := by decide +kernel
theorem dX11_laysSteps_8 : decode cX11_laysSteps 8 = .ok (.iaload, 1) := by decide +kernel
theorem dX11_laysSteps_9 : decode cX11_laysSteps 9 = .ok (.if_icmp .ge 65, 3) := by decide +kernel
theorem dX11_laysSteps_12 : decode cX11_laysSteps 12 = .ok (.aload_n 0, 1) := by decide +kernel
theorem dX11_laysSteps_13 : decode cX11_laysSteps 13 = .ok (.getfield 86, 3) := by decide +kernel
theorem dX11_laysSteps_16 : decode cX11_laysSteps 16 = .ok (.iload_n 3, 1) := by decide +kernel
theorem dX11_laysSteps_17 : decode cX11_laysSteps 17 = .ok (.iload_n 3, 1) := by decide +kernel
theorem dX11_laysSteps_18 : decode cX11_laysSteps 18 = .ok (.ifCond .ne 7, 3) := by decide +kernel
theorem dX11_laysSteps_21 : decode cX11_laysSteps 21 = .ok (.iconst 0, 1) := by decide +kernel
theorem dX11_laysSteps_22 : decode cX11_laysSteps 22 = .ok (.goto 13, 3) := by decide +kernel
theorem dX11_laysSteps_25 : decode cX11_laysSteps 25 = .ok (.aload_n 0, 1) := by decide +kernel
theorem dX11_laysSteps_26 : decode cX11_laysSteps 26 = .ok (.getfield 86, 3) := by decide +kernel
theorem dX11_laysSteps_29 : decode cX11_laysSteps 29 = .ok (.iload_n 3, 1) := by decide +kernel
theorem dX11_laysSteps_30 : decode cX11_laysSteps 30 = .ok (.iconst 1, 1) := by decide +kernel
theorem dX11_laysSteps_31 : decode cX11_laysSteps 31 = .ok (.isub, 1) := by decide +kernel
theorem dX11_laysSteps_32 : decode cX11_laysSteps 32 = .ok (.iaload, 1) := by decide +kernel
theorem dX11_laysSteps_33 : decode cX11_laysSteps 33 = .ok (.iconst 1, 1) := by decide +kernel
theorem dX11_laysSteps_34 : decode cX11_laysSteps 34 = .ok (.iadd, 1) := by decide +kernel
theorem dX11_laysSteps_35 : decode cX11_laysSteps 35 = .ok (.iastore, 1) := by decide +kernel
theorem dX11_laysSteps_36 : decode cX11_laysSteps 36 = .ok (.iload_n 2, 1) := by decide +kernel
theorem dX11_laysSteps_37 : decode cX11_laysSteps 37 = .ok (.ifCond .eq 31, 3) := by decide +kernel
theorem dX11_laysSteps_40 : decode cX11_laysSteps 40 = .ok (.aload_n 0, 1) := by decide +kernel
theorem dX11_laysSteps_41 : decode cX11_laysSteps 41 = .ok (.iload_n 3, 1) := by decide +kernel
theorem dX11_laysSteps_42 : decode cX11_laysSteps 42 = .ok (.aload_n 0, 1) := by decide +kernel
theorem dX11_laysSteps_43 : decode cX11_laysSteps 43 = .ok (.getfield 86, 3) := by decide +kernel
theorem dX11_laysSteps_46 : decode cX11_laysSteps 46 = .ok (.iload_n 3, 1) := by decide +kernel
theorem dX11_laysSteps_47 : decode cX11_laysSteps 47 = .ok (.iaload, 1) := by decide +kernel
theorem dX11_laysSteps_48 : decode cX11_laysSteps 48 = .ok (.iload_n 1, 1) := by decide +kernel
theorem dX11_laysSteps_49 : decode cX11_laysSteps 49 = .ok (.invokevirtual 206, 3) := by decide +kernel
theorem dX11_laysSteps_52 : decode cX11_laysSteps 52 = .ok (.ifCond .ne 16, 3) := by decide +kernel
theorem dX11_laysSteps_55 : decode cX11_laysSteps 55 = .ok (.aload_n 0, 1) := by decide +kernel
theorem dX11_laysSteps_56 : decode cX11_laysSteps 56 = .ok (.getfield 86, 3) := by decide +kernel
theorem dX11_laysSteps_59 : decode cX11_laysSteps 59 = .ok (.iload_n 3, 1) := by decide +kernel
theorem dX11_laysSteps_60 : decode cX11_laysSteps 60 = .ok (.dup2, 1) := by decide +kernel
theorem dX11_laysSteps_61 : decode cX11_laysSteps 61 = .ok (.iaload, 1) := by decide +kernel
theorem dX11_laysSteps_62 : decode cX11_laysSteps 62 = .ok (.iconst 1, 1) := by decide +kernel
theorem dX11_laysSteps_63 : decode cX11_laysSteps 63 = .ok (.iadd, 1) := by decide +kernel
theorem dX11_laysSteps_64 : decode cX11_laysSteps 64 = .ok (.iastore, 1) := by decide +kernel
theorem dX11_laysSteps_65 : decode cX11_laysSteps 65 = .ok (.goto (-29), 3) := by decide +kernel
theorem dX11_laysSteps_68 : decode cX11_laysSteps 68 = .ok (.iinc 3 1, 3) := by decide +kernel
theorem dX11_laysSteps_71 : decode cX11_laysSteps 71 = .ok (.goto (-69), 3) := by decide +kernel
theorem dX11_laysSteps_74 : decode cX11_laysSteps 74 = .ok (.return_, 1) := by decide +kernel
theorem dX11_readBy_0 : decode cX11_readBy 0 = .ok (.iload_n 1, 1) := by decide +kernel
theorem dX11_readBy_1 : decode cX11_readBy 1 = .ok (.iconst 1, 1) := by decide +kernel
theorem dX11_readBy_2 : decode cX11_readBy 2 = .ok (.isub, 1) := by decide +kernel
theorem dX11_readBy_3 : decode cX11_readBy 3 = .ok (.istore 5, 2) := by decide +kernel
theorem dX11_readBy_5 : decode cX11_readBy 5 = .ok (.iload 5, 2) := by decide +kernel
theorem dX11_readBy_7 : decode cX11_readBy 7 = .ok (.ifCond .lt 54, 3) := by decide +kernel
theorem dX11_readBy_10 : decode cX11_readBy 10 = .ok (.aload_n 0, 1) := by decide +kernel
theorem dX11_readBy_11 : decode cX11_readBy 11 = .ok (.iload 5, 2) := by decide +kernel
theorem dX11_readBy_13 : decode cX11_readBy 13 = .ok (.iload_n 2, 1) := by decide +kernel
theorem dX11_readBy_14 : decode cX11_readBy 14 = .ok (.invokevirtual 193, 3) := by decide +kernel
theorem dX11_readBy_17 : decode cX11_readBy 17 = .ok (.ifCond .eq 38, 3) := by decide +kernel
theorem dX11_readBy_20 : decode cX11_readBy 20 = .ok (.iload 4, 2) := by decide +kernel
theorem dX11_readBy_22 : decode cX11_readBy 22 = .ok (.ifCond .eq 25, 3) := by decide +kernel
theorem dX11_readBy_25 : decode cX11_readBy 25 = .ok (.aload_n 0, 1) := by decide +kernel
theorem dX11_readBy_26 : decode cX11_readBy 26 = .ok (.aload_n 0, 1) := by decide +kernel
theorem dX11_readBy_27 : decode cX11_readBy 27 = .ok (.getfield 86, 3) := by decide +kernel
theorem dX11_readBy_30 : decode cX11_readBy 30 = .ok (.iload_n 1, 1) := by decide +kernel
theorem dX11_readBy_31 : decode cX11_readBy 31 = .ok (.iaload, 1) := by decide +kernel
theorem dX11_readBy_32 : decode cX11_readBy 32 = .ok (.aload_n 0, 1) := by decide +kernel
theorem dX11_readBy_33 : decode cX11_readBy 33 = .ok (.getfield 86, 3) := by decide +kernel
theorem dX11_readBy_36 : decode cX11_readBy 36 = .ok (.iload 5, 2) := by decide +kernel
theorem dX11_readBy_38 : decode cX11_readBy 38 = .ok (.iaload, 1) := by decide +kernel
theorem dX11_readBy_39 : decode cX11_readBy 39 = .ok (.isub, 1) := by decide +kernel
theorem dX11_readBy_40 : decode cX11_readBy 40 = .ok (.iload_n 3, 1) := by decide +kernel
theorem dX11_readBy_41 : decode cX11_readBy 41 = .ok (.invokevirtual 199, 3) := by decide +kernel
theorem dX11_readBy_44 : decode cX11_readBy 44 = .ok (.ifCond .eq 11, 3) := by decide +kernel
theorem dX11_readBy_47 : decode cX11_readBy 47 = .ok (.aload_n 0, 1) := by decide +kernel
theorem dX11_readBy_48 : decode cX11_readBy 48 = .ok (.getfield 89, 3) := by decide +kernel
theorem dX11_readBy_51 : decode cX11_readBy 51 = .ok (.iload 5, 2) := by decide +kernel
theorem dX11_readBy_53 : decode cX11_readBy 53 = .ok (.iaload, 1) := by decide +kernel
theorem dX11_readBy_54 : decode cX11_readBy 54 = .ok (.ireturn, 1) := by decide +kernel
theorem dX11_readBy_55 : decode cX11_readBy 55 = .ok (.iinc 5 (-1), 3) := by decide +kernel
theorem dX11_readBy_58 : decode cX11_readBy 58 = .ok (.goto (-53), 3) := by decide +kernel
theorem dX11_readBy_61 : decode cX11_readBy 61 = .ok (.iload_n 2, 1) := by decide +kernel
theorem dX11_readBy_62 : decode cX11_readBy 62 = .ok (.ireturn, 1) := by decide +kernel
theorem dX11_goes_0 : decode cX11_goes 0 = .ok (.iconst 0, 1) := by decide +kernel
theorem dX11_goes_1 : decode cX11_goes 1 = .ok (.istore_n 3, 1) := by decide +kernel
theorem dX11_goes_2 : decode cX11_goes 2 = .ok (.iload_n 3, 1) := by decide +kernel
theorem dX11_goes_3 : decode cX11_goes 3 = .ok (.aload_n 0, 1) := by decide +kernel
theorem dX11_goes_4 : decode cX11_goes 4 = .ok (.getfield 20, 3) := by decide +kernel
theorem dX11_goes_7 : decode cX11_goes 7 = .ok (.iconst 0, 1) := by decide +kernel
theorem dX11_goes_8 : decode cX11_goes 8 = .ok (.iaload, 1) := by decide +kernel
theorem dX11_goes_9 : decode cX11_goes 9 = .ok (.if_icmp .ge 90, 3) := by decide +kernel
theorem dX11_goes_12 : decode cX11_goes 12 = .ok (.aload_n 0, 1) := by decide +kernel
theorem dX11_goes_13 : decode cX11_goes 13 = .ok (.iload_n 3, 1) := by decide +kernel
theorem dX11_goes_14 : decode cX11_goes 14 = .ok (.aload_n 0, 1) := by decide +kernel
theorem dX11_goes_15 : decode cX11_goes 15 = .ok (.iload_n 3, 1) := by decide +kernel
theorem dX11_goes_16 : decode cX11_goes 16 = .ok (.iconst 2, 1) := by decide +kernel
theorem dX11_goes_17 : decode cX11_goes 17 = .ok (.invokevirtual 189, 3) := by decide +kernel
theorem dX11_goes_20 : decode cX11_goes 20 = .ok (.iload_n 1, 1) := by decide +kernel
theorem dX11_goes_21 : decode cX11_goes 21 = .ok (.iload_n 2, 1) := by decide +kernel
theorem dX11_goes_22 : decode cX11_goes 22 = .ok (.invokevirtual 209, 3) := by decide +kernel
theorem dX11_goes_25 : decode cX11_goes 25 = .ok (.istore 4, 2) := by decide +kernel
theorem dX11_goes_27 : decode cX11_goes 27 = .ok (.aload_n 0, 1) := by decide +kernel
theorem dX11_goes_28 : decode cX11_goes 28 = .ok (.iload_n 3, 1) := by decide +kernel
theorem dX11_goes_29 : decode cX11_goes 29 = .ok (.aload_n 0, 1) := by decide +kernel
theorem dX11_goes_30 : decode cX11_goes 30 = .ok (.iload_n 3, 1) := by decide +kernel
theorem dX11_goes_31 : decode cX11_goes 31 = .ok (.iconst 3, 1) := by decide +kernel
theorem dX11_goes_32 : decode cX11_goes 32 = .ok (.invokevirtual 189, 3) := by decide +kernel
theorem dX11_goes_35 : decode cX11_goes 35 = .ok (.iload_n 1, 1) := by decide +kernel
theorem dX11_goes_36 : decode cX11_goes 36 = .ok (.iload_n 2, 1) := by decide +kernel
theorem dX11_goes_37 : decode cX11_goes 37 = .ok (.invokevirtual 209, 3) := by decide +kernel
theorem dX11_goes_40 : decode cX11_goes 40 = .ok (.istore 5, 2) := by decide +kernel
theorem dX11_goes_42 : decode cX11_goes 42 = .ok (.aload_n 0, 1) := by decide +kernel
theorem dX11_goes_43 : decode cX11_goes 43 = .ok (.getfield 89, 3) := by decide +kernel
theorem dX11_goes_46 : decode cX11_goes 46 = .ok (.iload_n 3, 1) := by decide +kernel
theorem dX11_goes_47 : decode cX11_goes 47 = .ok (.aload_n 0, 1) := by decide +kernel
theorem dX11_goes_48 : decode cX11_goes 48 = .ok (.iload_n 3, 1) := by decide +kernel
theorem dX11_goes_49 : decode cX11_goes 49 = .ok (.iconst 0, 1) := by decide +kernel
theorem dX11_goes_50 : decode cX11_goes 50 = .ok (.invokevirtual 189, 3) := by decide +kernel
theorem dX11_goes_53 : decode cX11_goes 53 = .ok (.ifCond .ne 8, 3) := by decide +kernel
theorem dX11_goes_56 : decode cX11_goes 56 = .ok (.bipush (-9), 2) := by decide +kernel
theorem dX11_goes_58 : decode cX11_goes 58 = .ok (.goto 34, 3) := by decide +kernel
theorem dX11_goes_61 : decode cX11_goes 61 = .ok (.aload_n 0, 1) := by decide +kernel
theorem dX11_goes_62 : decode cX11_goes 62 = .ok (.iload_n 3, 1) := by decide +kernel
theorem dX11_goes_63 : decode cX11_goes 63 = .ok (.iconst 0, 1) := by decide +kernel
theorem dX11_goes_64 : decode cX11_goes 64 = .ok (.invokevirtual 189, 3) := by decide +kernel
theorem dX11_goes_67 : decode cX11_goes 67 = .ok (.iconst 1, 1) := by decide +kernel
theorem dX11_goes_68 : decode cX11_goes 68 = .ok (.if_icmp .ne 15, 3) := by decide +kernel
theorem dX11_goes_71 : decode cX11_goes 71 = .ok (.aload_n 0, 1) := by decide +kernel
theorem dX11_goes_72 : decode cX11_goes 72 = .ok (.iconst 4, 1) := by decide +kernel
theorem dX11_goes_73 : decode cX11_goes 73 = .ok (.iload 4, 2) := by decide +kernel
theorem dX11_goes_75 : decode cX11_goes 75 = .ok (.bipush (-9), 2) := by decide +kernel
theorem dX11_goes_77 : decode cX11_goes 77 = .ok (.invokevirtual 115, 3) := by decide +kernel
theorem dX11_goes_80 : decode cX11_goes 80 = .ok (.goto 12, 3) := by decide +kernel
theorem dX11_goes_83 : decode cX11_goes 83 = .ok (.aload_n 0, 1) := by decide +kernel
theorem dX11_goes_84 : decode cX11_goes 84 = .ok (.iconst 5, 1) := by decide +kernel
theorem dX11_goes_85 : decode cX11_goes 85 = .ok (.iload 4, 2) := by decide +kernel
theorem dX11_goes_87 : decode cX11_goes 87 = .ok (.iload 5, 2) := by decide +kernel
theorem dX11_goes_89 : decode cX11_goes 89 = .ok (.invokevirtual 115, 3) := by decide +kernel
theorem dX11_goes_92 : decode cX11_goes 92 = .ok (.iastore, 1) := by decide +kernel
theorem dX11_goes_93 : decode cX11_goes 93 = .ok (.iinc 3 1, 3) := by decide +kernel
theorem dX11_goes_96 : decode cX11_goes 96 = .ok (.goto (-94), 3) := by decide +kernel
theorem dX11_goes_99 : decode cX11_goes 99 = .ok (.iconst 0, 1) := by decide +kernel
theorem dX11_goes_100 : decode cX11_goes 100 = .ok (.istore_n 3, 1) := by decide +kernel
theorem dX11_goes_101 : decode cX11_goes 101 = .ok (.iload_n 3, 1) := by decide +kernel
theorem dX11_goes_102 : decode cX11_goes 102 = .ok (.iconst 4, 1) := by decide +kernel
theorem dX11_goes_103 : decode cX11_goes 103 = .ok (.if_icmp .ge 54, 3) := by decide +kernel
theorem dX11_goes_106 : decode cX11_goes 106 = .ok (.aload_n 0, 1) := by decide +kernel
theorem dX11_goes_107 : decode cX11_goes 107 = .ok (.aload_n 0, 1) := by decide +kernel
theorem dX11_goes_108 : decode cX11_goes 108 = .ok (.getfield 20, 3) := by decide +kernel
theorem dX11_goes_111 : decode cX11_goes 111 = .ok (.iconst 0, 1) := by decide +kernel
theorem dX11_goes_112 : decode cX11_goes 112 = .ok (.iaload, 1) := by decide +kernel
theorem dX11_goes_113 : decode cX11_goes 113 = .ok (.iload_n 3, 1) := by decide +kernel
theorem dX11_goes_114 : decode cX11_goes 114 = .ok (.invokevirtual 196, 3) := by decide +kernel
theorem dX11_goes_117 : decode cX11_goes 117 = .ok (.istore 4, 2) := by decide +kernel
theorem dX11_goes_119 : decode cX11_goes 119 = .ok (.aload_n 0, 1) := by decide +kernel
theorem dX11_goes_120 : decode cX11_goes 120 = .ok (.getfield 92, 3) := by decide +kernel
theorem dX11_goes_123 : decode cX11_goes 123 = .ok (.iload_n 3, 1) := by decide +kernel
theorem dX11_goes_124 : decode cX11_goes 124 = .ok (.iload_n 2, 1) := by decide +kernel
theorem dX11_goes_125 : decode cX11_goes 125 = .ok (.ifCond .eq 7, 3) := by decide +kernel
theorem dX11_goes_128 : decode cX11_goes 128 = .ok (.iconst 4, 1) := by decide +kernel
theorem dX11_goes_129 : decode cX11_goes 129 = .ok (.goto 4, 3) := by decide +kernel
theorem dX11_goes_132 : decode cX11_goes 132 = .ok (.iconst 0, 1) := by decide +kernel
theorem dX11_goes_133 : decode cX11_goes 133 = .ok (.iadd, 1) := by decide +kernel
theorem dX11_goes_134 : decode cX11_goes 134 = .ok (.iload 4, 2) := by decide +kernel
theorem dX11_goes_136 : decode cX11_goes 136 = .ok (.ifCond .ge 7, 3) := by decide +kernel
theorem dX11_goes_139 : decode cX11_goes 139 = .ok (.iload_n 3, 1) := by decide +kernel
theorem dX11_goes_140 : decode cX11_goes 140 = .ok (.goto 10, 3) := by decide +kernel
theorem dX11_goes_143 : decode cX11_goes 143 = .ok (.aload_n 0, 1) := by decide +kernel
theorem dX11_goes_144 : decode cX11_goes 144 = .ok (.getfield 89, 3) := by decide +kernel
theorem dX11_goes_147 : decode cX11_goes 147 = .ok (.iload 4, 2) := by decide +kernel
theorem dX11_goes_149 : decode cX11_goes 149 = .ok (.iaload, 1) := by decide +kernel
theorem dX11_goes_150 : decode cX11_goes 150 = .ok (.iastore, 1) := by decide +kernel
theorem dX11_goes_151 : decode cX11_goes 151 = .ok (.iinc 3 1, 3) := by decide +kernel
theorem dX11_goes_154 : decode cX11_goes 154 = .ok (.goto (-53), 3) := by decide +kernel
theorem dX11_goes_157 : decode cX11_goes 157 = .ok (.return_, 1) := by decide +kernel
theorem dX11_runs_0 : decode cX11_runs 0 = .ok (.aload_n 0, 1) := by decide +kernel
theorem dX11_runs_1 : decode cX11_runs 1 = .ok (.aload_n 0, 1) := by decide +kernel
theorem dX11_runs_2 : decode cX11_runs 2 = .ok (.getfield 119, 3) := by decide +kernel
theorem dX11_runs_5 : decode cX11_runs 5 = .ok (.putfield 112, 3) := by decide +kernel
theorem dX11_runs_8 : decode cX11_runs 8 = .ok (.aload_n 0, 1) := by decide +kernel
theorem dX11_runs_9 : decode cX11_runs 9 = .ok (.iload_n 1, 1) := by decide +kernel
theorem dX11_runs_10 : decode cX11_runs 10 = .ok (.iload_n 2, 1) := by decide +kernel
theorem dX11_runs_11 : decode cX11_runs 11 = .ok (.invokevirtual 213, 3) := by decide +kernel
theorem dX11_runs_14 : decode cX11_runs 14 = .ok (.aload_n 0, 1) := by decide +kernel
theorem dX11_runs_15 : decode cX11_runs 15 = .ok (.iload_n 1, 1) := by decide +kernel
theorem dX11_runs_16 : decode cX11_runs 16 = .ok (.iconst 0, 1) := by decide +kernel
theorem dX11_runs_17 : decode cX11_runs 17 = .ok (.invokevirtual 217, 3) := by decide +kernel
theorem dX11_runs_20 : decode cX11_runs 20 = .ok (.aload_n 0, 1) := by decide +kernel
theorem dX11_runs_21 : decode cX11_runs 21 = .ok (.iload_n 1, 1) := by decide +kernel
theorem dX11_runs_22 : decode cX11_runs 22 = .ok (.iconst 1, 1) := by decide +kernel
theorem dX11_runs_23 : decode cX11_runs 23 = .ok (.invokevirtual 217, 3) := by decide +kernel
theorem dX11_runs_26 : decode cX11_runs 26 = .ok (.return_, 1) := by decide +kernel
theorem dX11_runsNow_0 : decode cX11_runsNow 0 = .ok (.aload_n 0, 1) := by decide +kernel
theorem dX11_runsNow_1 : decode cX11_runsNow 1 = .ok (.aload_n 0, 1) := by decide +kernel
theorem dX11_runsNow_2 : decode cX11_runsNow 2 = .ok (.getfield 20, 3) := by decide +kernel
theorem dX11_runsNow_5 : decode cX11_runsNow 5 = .ok (.bipush 27, 2) := by decide +kernel
theorem dX11_runsNow_7 : decode cX11_runsNow 7 = .ok (.iaload, 1) := by decide +kernel
theorem dX11_runsNow_8 : decode cX11_runsNow 8 = .ok (.aload_n 0, 1) := by decide +kernel
theorem dX11_runsNow_9 : decode cX11_runsNow 9 = .ok (.getfield 20, 3) := by decide +kernel
theorem dX11_runsNow_12 : decode cX11_runsNow 12 = .ok (.bipush 28, 2) := by decide +kernel
theorem dX11_runsNow_14 : decode cX11_runsNow 14 = .ok (.iaload, 1) := by decide +kernel
theorem dX11_runsNow_15 : decode cX11_runsNow 15 = .ok (.iconst 1, 1) := by decide +kernel
theorem dX11_runsNow_16 : decode cX11_runsNow 16 = .ok (.if_icmp .ne 7, 3) := by decide +kernel
theorem dX11_runsNow_19 : decode cX11_runsNow 19 = .ok (.iconst 1, 1) := by decide +kernel
theorem dX11_runsNow_20 : decode cX11_runsNow 20 = .ok (.goto 4, 3) := by decide +kernel
theorem dX11_runsNow_23 : decode cX11_runsNow 23 = .ok (.iconst 0, 1) := by decide +kernel
theorem dX11_runsNow_24 : decode cX11_runsNow 24 = .ok (.invokevirtual 220, 3) := by decide +kernel
theorem dX11_runsNow_27 : decode cX11_runsNow 27 = .ok (.return_, 1) := by decide +kernel
theorem dX11_wrongBy_0 : decode cX11_wrongBy 0 = .ok (.aload_n 0, 1) := by decide +kernel
theorem dX11_wrongBy_1 : decode cX11_wrongBy 1 = .ok (.iload_n 1, 1) := by decide +kernel
theorem dX11_wrongBy_2 : decode cX11_wrongBy 2 = .ok (.iconst 0, 1) := by decide +kernel
theorem dX11_wrongBy_3 : decode cX11_wrongBy 3 = .ok (.iconst 0, 1) := by decide +kernel
theorem dX11_wrongBy_4 : decode cX11_wrongBy 4 = .ok (.invokevirtual 182, 3) := by decide +kernel
theorem dX11_wrongBy_7 : decode cX11_wrongBy 7 = .ok (.aload_n 0, 1) := by decide +kernel
theorem dX11_wrongBy_8 : decode cX11_wrongBy 8 = .ok (.iload_n 1, 1) := by decide +kernel
theorem dX11_wrongBy_9 : decode cX11_wrongBy 9 = .ok (.invokevirtual 186, 3) := by decide +kernel
theorem dX11_wrongBy_12 : decode cX11_wrongBy 12 = .ok (.ifCond .eq 5, 3) := by decide +kernel
theorem dX11_wrongBy_15 : decode cX11_wrongBy 15 = .ok (.iconst 0, 1) := by decide +kernel
theorem dX11_wrongBy_16 : decode cX11_wrongBy 16 = .ok (.ireturn, 1) := by decide +kernel
theorem dX11_wrongBy_17 : decode cX11_wrongBy 17 = .ok (.iconst 0, 1) := by decide +kernel
theorem dX11_wrongBy_18 : decode cX11_wrongBy 18 = .ok (.istore_n 2, 1) := by decide +kernel
theorem dX11_wrongBy_19 : decode cX11_wrongBy 19 = .ok (.iconst 0, 1) := by decide +kernel
theorem dX11_wrongBy_20 : decode cX11_wrongBy 20 = .ok (.istore_n 3, 1) := by decide +kernel
theorem dX11_wrongBy_21 : decode cX11_wrongBy 21 = .ok (.iload_n 3, 1) := by decide +kernel
theorem dX11_wrongBy_22 : decode cX11_wrongBy 22 = .ok (.iconst 4, 1) := by decide +kernel
theorem dX11_wrongBy_23 : decode cX11_wrongBy 23 = .ok (.if_icmp .ge 46, 3) := by decide +kernel
theorem dX11_wrongBy_26 : decode cX11_wrongBy 26 = .ok (.iload_n 2, 1) := by decide +kernel
theorem dX11_wrongBy_27 : decode cX11_wrongBy 27 = .ok (.aload_n 0, 1) := by decide +kernel
theorem dX11_wrongBy_28 : decode cX11_wrongBy 28 = .ok (.getfield 83, 3) := by decide +kernel
theorem dX11_wrongBy_31 : decode cX11_wrongBy 31 = .ok (.aload_n 0, 1) := by decide +kernel
theorem dX11_wrongBy_32 : decode cX11_wrongBy 32 = .ok (.getfield 92, 3) := by decide +kernel
theorem dX11_wrongBy_35 : decode cX11_wrongBy 35 = .ok (.iload_n 3, 1) := by decide +kernel
theorem dX11_wrongBy_36 : decode cX11_wrongBy 36 = .ok (.iaload, 1) := by decide +kernel
theorem dX11_wrongBy_37 : decode cX11_wrongBy 37 = .ok (.iaload, 1) := by decide +kernel
theorem dX11_wrongBy_38 : decode cX11_wrongBy 38 = .ok (.aload_n 0, 1) := by decide +kernel
theorem dX11_wrongBy_39 : decode cX11_wrongBy 39 = .ok (.getfield 83, 3) := by decide +kernel
theorem dX11_wrongBy_42 : decode cX11_wrongBy 42 = .ok (.aload_n 0, 1) := by decide +kernel
theorem dX11_wrongBy_43 : decode cX11_wrongBy 43 = .ok (.getfield 92, 3) := by decide +kernel
theorem dX11_wrongBy_46 : decode cX11_wrongBy 46 = .ok (.iload_n 3, 1) := by decide +kernel
theorem dX11_wrongBy_47 : decode cX11_wrongBy 47 = .ok (.iconst 4, 1) := by decide +kernel
theorem dX11_wrongBy_48 : decode cX11_wrongBy 48 = .ok (.iadd, 1) := by decide +kernel
theorem dX11_wrongBy_49 : decode cX11_wrongBy 49 = .ok (.iaload, 1) := by decide +kernel
theorem dX11_wrongBy_50 : decode cX11_wrongBy 50 = .ok (.iaload, 1) := by decide +kernel
theorem dX11_wrongBy_51 : decode cX11_wrongBy 51 = .ok (.if_icmp .ne 7, 3) := by decide +kernel
theorem dX11_wrongBy_54 : decode cX11_wrongBy 54 = .ok (.iconst 0, 1) := by decide +kernel
theorem dX11_wrongBy_55 : decode cX11_wrongBy 55 = .ok (.goto 6, 3) := by decide +kernel
theorem dX11_wrongBy_58 : decode cX11_wrongBy 58 = .ok (.iconst 1, 1) := by decide +kernel
theorem dX11_wrongBy_59 : decode cX11_wrongBy 59 = .ok (.iload_n 3, 1) := by decide +kernel
theorem dX11_wrongBy_60 : decode cX11_wrongBy 60 = .ok (.ishl, 1) := by decide +kernel
theorem dX11_wrongBy_61 : decode cX11_wrongBy 61 = .ok (.ior, 1) := by decide +kernel
theorem dX11_wrongBy_62 : decode cX11_wrongBy 62 = .ok (.istore_n 2, 1) := by decide +kernel
theorem dX11_wrongBy_63 : decode cX11_wrongBy 63 = .ok (.iinc 3 1, 3) := by decide +kernel
theorem dX11_wrongBy_66 : decode cX11_wrongBy 66 = .ok (.goto (-45), 3) := by decide +kernel
theorem dX11_wrongBy_69 : decode cX11_wrongBy 69 = .ok (.iload_n 2, 1) := by decide +kernel
theorem dX11_wrongBy_70 : decode cX11_wrongBy 70 = .ok (.ireturn, 1) := by decide +kernel
theorem dX11_instruction_0 : decode cX11_instruction 0 = .ok (.aload_n 0, 1) := by decide +kernel
theorem dX11_instruction_1 : decode cX11_instruction 1 = .ok (.iconst 0, 1) := by decide +kernel
theorem dX11_instruction_2 : decode cX11_instruction 2 = .ok (.putfield 104, 3) := by decide +kernel
theorem dX11_instruction_5 : decode cX11_instruction 5 = .ok (.iload_n 1, 1) := by decide +kernel
theorem dX11_instruction_6 : decode cX11_instruction 6 = .ok (.iconst 0, 1) := by decide +kernel
theorem dX11_instruction_7 : decode cX11_instruction 7 = .ok (.aload_n 0, 1) := by decide +kernel
theorem dX11_instruction_8 : decode cX11_instruction 8 = .ok (.getfield 20, 3) := by decide +kernel
theorem dX11_instruction_11 : decode cX11_instruction 11 = .ok (.iconst 0, 1) := by decide +kernel
theorem dX11_instruction_12 : decode cX11_instruction 12 = .ok (.iaload, 1) := by decide +kernel
theorem dX11_instruction_13 : decode cX11_instruction 13 = .ok (.iconst 1, 1) := by decide +kernel
theorem dX11_instruction_14 : decode cX11_instruction 14 = .ok (.isub, 1) := by decide +kernel
theorem dX11_instruction_15 : decode cX11_instruction 15 = .ok (.invokestatic 122, 3) := by decide +kernel
theorem dX11_instruction_18 : decode cX11_instruction 18 = .ok (.ifCond .eq 21, 3) := by decide +kernel
theorem dX11_instruction_21 : decode cX11_instruction 21 = .ok (.iload_n 2, 1) := by decide +kernel
theorem dX11_instruction_22 : decode cX11_instruction 22 = .ok (.iconst 0, 1) := by decide +kernel
theorem dX11_instruction_23 : decode cX11_instruction 23 = .ok (.iconst 3, 1) := by decide +kernel
theorem dX11_instruction_24 : decode cX11_instruction 24 = .ok (.invokestatic 122, 3) := by decide +kernel
theorem dX11_instruction_27 : decode cX11_instruction 27 = .ok (.ifCond .eq 12, 3) := by decide +kernel
theorem dX11_instruction_30 : decode cX11_instruction 30 = .ok (.aload_n 0, 1) := by decide +kernel
theorem dX11_instruction_31 : decode cX11_instruction 31 = .ok (.iload_n 1, 1) := by decide +kernel
theorem dX11_instruction_32 : decode cX11_instruction 32 = .ok (.iload_n 2, 1) := by decide +kernel
theorem dX11_instruction_33 : decode cX11_instruction 33 = .ok (.invokevirtual 189, 3) := by decide +kernel
theorem dX11_instruction_36 : decode cX11_instruction 36 = .ok (.goto 4, 3) := by decide +kernel
theorem dX11_instruction_39 : decode cX11_instruction 39 = .ok (.iconst (-1), 1) := by decide +kernel
theorem dX11_instruction_40 : decode cX11_instruction 40 = .ok (.ireturn, 1) := by decide +kernel
theorem dX11_fact_0 : decode cX11_fact 0 = .ok (.aload_n 0, 1) := by decide +kernel
theorem dX11_fact_1 : decode cX11_fact 1 = .ok (.iconst 0, 1) := by decide +kernel
theorem dX11_fact_2 : decode cX11_fact 2 = .ok (.putfield 104, 3) := by decide +kernel
theorem dX11_fact_5 : decode cX11_fact 5 = .ok (.iload_n 1, 1) := by decide +kernel
theorem dX11_fact_6 : decode cX11_fact 6 = .ok (.iconst 0, 1) := by decide +kernel
theorem dX11_fact_7 : decode cX11_fact 7 = .ok (.aload_n 0, 1) := by decide +kernel
theorem dX11_fact_8 : decode cX11_fact 8 = .ok (.getfield 162, 3) := by decide +kernel
theorem dX11_fact_11 : decode cX11_fact 11 = .ok (.iconst 1, 1) := by decide +kernel
theorem dX11_fact_12 : decode cX11_fact 12 = .ok (.isub, 1) := by decide +kernel
theorem dX11_fact_13 : decode cX11_fact 13 = .ok (.invokestatic 122, 3) := by decide +kernel
theorem dX11_fact_16 : decode cX11_fact 16 = .ok (.ifCond .ne 5, 3) := by decide +kernel
theorem dX11_fact_19 : decode cX11_fact 19 = .ok (.iconst (-1), 1) := by decide +kernel
theorem dX11_fact_20 : decode cX11_fact 20 = .ok (.ireturn, 1) := by decide +kernel
theorem dX11_fact_21 : decode cX11_fact 21 = .ok (.aload_n 0, 1) := by decide +kernel
theorem dX11_fact_22 : decode cX11_fact 22 = .ok (.aload_n 0, 1) := by decide +kernel
theorem dX11_fact_23 : decode cX11_fact 23 = .ok (.getfield 119, 3) := by decide +kernel
theorem dX11_fact_26 : decode cX11_fact 26 = .ok (.putfield 112, 3) := by decide +kernel
theorem dX11_fact_29 : decode cX11_fact 29 = .ok (.aload_n 0, 1) := by decide +kernel
theorem dX11_fact_30 : decode cX11_fact 30 = .ok (.aload_n 0, 1) := by decide +kernel
theorem dX11_fact_31 : decode cX11_fact 31 = .ok (.getfield 20, 3) := by decide +kernel
theorem dX11_fact_34 : decode cX11_fact 34 = .ok (.bipush 25, 2) := by decide +kernel
theorem dX11_fact_36 : decode cX11_fact 36 = .ok (.iaload, 1) := by decide +kernel
theorem dX11_fact_37 : decode cX11_fact 37 = .ok (.aload_n 0, 1) := by decide +kernel
theorem dX11_fact_38 : decode cX11_fact 38 = .ok (.getfield 13, 3) := by decide +kernel
theorem dX11_fact_41 : decode cX11_fact 41 = .ok (.iload_n 1, 1) := by decide +kernel
theorem dX11_fact_42 : decode cX11_fact 42 = .ok (.iaload, 1) := by decide +kernel
theorem dX11_fact_43 : decode cX11_fact 43 = .ok (.aload_n 0, 1) := by decide +kernel
theorem dX11_fact_44 : decode cX11_fact 44 = .ok (.getfield 17, 3) := by decide +kernel
theorem dX11_fact_47 : decode cX11_fact 47 = .ok (.iload_n 1, 1) := by decide +kernel
theorem dX11_fact_48 : decode cX11_fact 48 = .ok (.iaload, 1) := by decide +kernel
theorem dX11_fact_49 : decode cX11_fact 49 = .ok (.invokevirtual 223, 3) := by decide +kernel
theorem dX11_fact_52 : decode cX11_fact 52 = .ok (.ireturn, 1) := by decide +kernel
theorem dX11_ruled_0 : decode cX11_ruled 0 = .ok (.aload_n 0, 1) := by decide +kernel
theorem dX11_ruled_1 : decode cX11_ruled 1 = .ok (.iconst 0, 1) := by decide +kernel
theorem dX11_ruled_2 : decode cX11_ruled 2 = .ok (.putfield 104, 3) := by decide +kernel
theorem dX11_ruled_5 : decode cX11_ruled 5 = .ok (.aload_n 0, 1) := by decide +kernel
theorem dX11_ruled_6 : decode cX11_ruled 6 = .ok (.aload_n 0, 1) := by decide +kernel
theorem dX11_ruled_7 : decode cX11_ruled 7 = .ok (.getfield 119, 3) := by decide +kernel
theorem dX11_ruled_10 : decode cX11_ruled 10 = .ok (.putfield 112, 3) := by decide +kernel
theorem dX11_ruled_13 : decode cX11_ruled 13 = .ok (.aload_n 0, 1) := by decide +kernel
theorem dX11_ruled_14 : decode cX11_ruled 14 = .ok (.aload_n 0, 1) := by decide +kernel
theorem dX11_ruled_15 : decode cX11_ruled 15 = .ok (.getfield 20, 3) := by decide +kernel
theorem dX11_ruled_18 : decode cX11_ruled 18 = .ok (.bipush 25, 2) := by decide +kernel
theorem dX11_ruled_20 : decode cX11_ruled 20 = .ok (.iaload, 1) := by decide +kernel
theorem dX11_ruled_21 : decode cX11_ruled 21 = .ok (.iconst 0, 1) := by decide +kernel
theorem dX11_ruled_22 : decode cX11_ruled 22 = .ok (.iconst 0, 1) := by decide +kernel
theorem dX11_ruled_23 : decode cX11_ruled 23 = .ok (.invokevirtual 182, 3) := by decide +kernel
theorem dX11_ruled_26 : decode cX11_ruled 26 = .ok (.aload_n 0, 1) := by decide +kernel
theorem dX11_ruled_27 : decode cX11_ruled 27 = .ok (.aload_n 0, 1) := by decide +kernel
theorem dX11_ruled_28 : decode cX11_ruled 28 = .ok (.getfield 20, 3) := by decide +kernel
theorem dX11_ruled_31 : decode cX11_ruled 31 = .ok (.bipush 25, 2) := by decide +kernel
theorem dX11_ruled_33 : decode cX11_ruled 33 = .ok (.iaload, 1) := by decide +kernel
theorem dX11_ruled_34 : decode cX11_ruled 34 = .ok (.invokevirtual 186, 3) := by decide +kernel
theorem dX11_ruled_37 : decode cX11_ruled 37 = .ok (.ifCond .eq 7, 3) := by decide +kernel
theorem dX11_ruled_40 : decode cX11_ruled 40 = .ok (.iconst 1, 1) := by decide +kernel
theorem dX11_ruled_41 : decode cX11_ruled 41 = .ok (.goto 4, 3) := by decide +kernel
theorem dX11_ruled_44 : decode cX11_ruled 44 = .ok (.iconst 0, 1) := by decide +kernel
theorem dX11_ruled_45 : decode cX11_ruled 45 = .ok (.ireturn, 1) := by decide +kernel
theorem dX11_isRegister_0 : decode cX11_isRegister 0 = .ok (.iload_n 0, 1) := by decide +kernel
theorem dX11_isRegister_1 : decode cX11_isRegister 1 = .ok (.iconst 0, 1) := by decide +kernel
theorem dX11_isRegister_2 : decode cX11_isRegister 2 = .ok (.iconst 3, 1) := by decide +kernel
theorem dX11_isRegister_3 : decode cX11_isRegister 3 = .ok (.invokestatic 122, 3) := by decide +kernel
theorem dX11_isRegister_6 : decode cX11_isRegister 6 = .ok (.ireturn, 1) := by decide +kernel
theorem dX11_equal_0 : decode cX11_equal 0 = .ok (.aload_n 0, 1) := by decide +kernel
theorem dX11_equal_1 : decode cX11_equal 1 = .ok (.iconst 0, 1) := by decide +kernel
theorem dX11_equal_2 : decode cX11_equal 2 = .ok (.putfield 104, 3) := by decide +kernel
theorem dX11_equal_5 : decode cX11_equal 5 = .ok (.iload_n 1, 1) := by decide +kernel
theorem dX11_equal_6 : decode cX11_equal 6 = .ok (.invokestatic 226, 3) := by decide +kernel
theorem dX11_equal_9 : decode cX11_equal 9 = .ok (.ifCond .eq 19, 3) := by decide +kernel
theorem dX11_equal_12 : decode cX11_equal 12 = .ok (.iload_n 2, 1) := by decide +kernel
theorem dX11_equal_13 : decode cX11_equal 13 = .ok (.invokestatic 226, 3) := by decide +kernel
theorem dX11_equal_16 : decode cX11_equal 16 = .ok (.ifCond .eq 12, 3) := by decide +kernel
theorem dX11_equal_19 : decode cX11_equal 19 = .ok (.iload_n 3, 1) := by decide +kernel
theorem dX11_equal_20 : decode cX11_equal 20 = .ok (.iconst 0, 1) := by decide +kernel
theorem dX11_equal_21 : decode cX11_equal 21 = .ok (.iconst 2, 1) := by decide +kernel
theorem dX11_equal_22 : decode cX11_equal 22 = .ok (.invokestatic 122, 3) := by decide +kernel
theorem dX11_equal_25 : decode cX11_equal 25 = .ok (.ifCond .ne 5, 3) := by decide +kernel
theorem dX11_equal_28 : decode cX11_equal 28 = .ok (.iconst (-1), 1) := by decide +kernel
theorem dX11_equal_29 : decode cX11_equal 29 = .ok (.ireturn, 1) := by decide +kernel
theorem dX11_equal_30 : decode cX11_equal 30 = .ok (.aload_n 0, 1) := by decide +kernel
theorem dX11_equal_31 : decode cX11_equal 31 = .ok (.invokevirtual 229, 3) := by decide +kernel
theorem dX11_equal_34 : decode cX11_equal 34 = .ok (.aload_n 0, 1) := by decide +kernel
theorem dX11_equal_35 : decode cX11_equal 35 = .ok (.aload_n 0, 1) := by decide +kernel
theorem dX11_equal_36 : decode cX11_equal 36 = .ok (.getfield 20, 3) := by decide +kernel
theorem dX11_equal_39 : decode cX11_equal 39 = .ok (.bipush 25, 2) := by decide +kernel
theorem dX11_equal_41 : decode cX11_equal 41 = .ok (.iaload, 1) := by decide +kernel
theorem dX11_equal_42 : decode cX11_equal 42 = .ok (.aload_n 0, 1) := by decide +kernel
theorem dX11_equal_43 : decode cX11_equal 43 = .ok (.getfield 92, 3) := by decide +kernel
theorem dX11_equal_46 : decode cX11_equal 46 = .ok (.iload_n 3, 1) := by decide +kernel
theorem dX11_equal_47 : decode cX11_equal 47 = .ok (.iconst 1, 1) := by decide +kernel
theorem dX11_equal_48 : decode cX11_equal 48 = .ok (.if_icmp .ne 9, 3) := by decide +kernel
theorem dX11_equal_51 : decode cX11_equal 51 = .ok (.iload_n 1, 1) := by decide +kernel
theorem dX11_equal_52 : decode cX11_equal 52 = .ok (.iconst 4, 1) := by decide +kernel
theorem dX11_equal_53 : decode cX11_equal 53 = .ok (.iadd, 1) := by decide +kernel
theorem dX11_equal_54 : decode cX11_equal 54 = .ok (.goto 4, 3) := by decide +kernel
theorem dX11_equal_57 : decode cX11_equal 57 = .ok (.iload_n 1, 1) := by decide +kernel
theorem dX11_equal_58 : decode cX11_equal 58 = .ok (.iaload, 1) := by decide +kernel
theorem dX11_equal_59 : decode cX11_equal 59 = .ok (.aload_n 0, 1) := by decide +kernel
theorem dX11_equal_60 : decode cX11_equal 60 = .ok (.getfield 92, 3) := by decide +kernel
theorem dX11_equal_63 : decode cX11_equal 63 = .ok (.iload_n 3, 1) := by decide +kernel
theorem dX11_equal_64 : decode cX11_equal 64 = .ok (.ifCond .ne 7, 3) := by decide +kernel
theorem dX11_equal_67 : decode cX11_equal 67 = .ok (.iload_n 2, 1) := by decide +kernel
theorem dX11_equal_68 : decode cX11_equal 68 = .ok (.goto 6, 3) := by decide +kernel
theorem dX11_equal_71 : decode cX11_equal 71 = .ok (.iload_n 2, 1) := by decide +kernel
theorem dX11_equal_72 : decode cX11_equal 72 = .ok (.iconst 4, 1) := by decide +kernel
theorem dX11_equal_73 : decode cX11_equal 73 = .ok (.iadd, 1) := by decide +kernel
theorem dX11_equal_74 : decode cX11_equal 74 = .ok (.iaload, 1) := by decide +kernel
theorem dX11_equal_75 : decode cX11_equal 75 = .ok (.invokevirtual 223, 3) := by decide +kernel
theorem dX11_equal_78 : decode cX11_equal 78 = .ok (.ireturn, 1) := by decide +kernel
theorem dX11_deep_0 : decode cX11_deep 0 = .ok (.aload_n 0, 1) := by decide +kernel
theorem dX11_deep_1 : decode cX11_deep 1 = .ok (.iconst 0, 1) := by decide +kernel
theorem dX11_deep_2 : decode cX11_deep 2 = .ok (.putfield 104, 3) := by decide +kernel
theorem dX11_deep_5 : decode cX11_deep 5 = .ok (.iload_n 1, 1) := by decide +kernel
theorem dX11_deep_6 : decode cX11_deep 6 = .ok (.invokestatic 226, 3) := by decide +kernel
theorem dX11_deep_9 : decode cX11_deep 9 = .ok (.ifCond .eq 12, 3) := by decide +kernel
theorem dX11_deep_12 : decode cX11_deep 12 = .ok (.iload_n 2, 1) := by decide +kernel
theorem dX11_deep_13 : decode cX11_deep 13 = .ok (.iconst 0, 1) := by decide +kernel
theorem dX11_deep_14 : decode cX11_deep 14 = .ok (.iconst 1, 1) := by decide +kernel
theorem dX11_deep_15 : decode cX11_deep 15 = .ok (.invokestatic 122, 3) := by decide +kernel
theorem dX11_deep_18 : decode cX11_deep 18 = .ok (.ifCond .ne 5, 3) := by decide +kernel
theorem dX11_deep_21 : decode cX11_deep 21 = .ok (.iconst (-1), 1) := by decide +kernel
theorem dX11_deep_22 : decode cX11_deep 22 = .ok (.ireturn, 1) := by decide +kernel
theorem dX11_deep_23 : decode cX11_deep 23 = .ok (.aload_n 0, 1) := by decide +kernel
theorem dX11_deep_24 : decode cX11_deep 24 = .ok (.invokevirtual 229, 3) := by decide +kernel
theorem dX11_deep_27 : decode cX11_deep 27 = .ok (.aload_n 0, 1) := by decide +kernel
theorem dX11_deep_28 : decode cX11_deep 28 = .ok (.aload_n 0, 1) := by decide +kernel
theorem dX11_deep_29 : decode cX11_deep 29 = .ok (.getfield 92, 3) := by decide +kernel
theorem dX11_deep_32 : decode cX11_deep 32 = .ok (.iload_n 1, 1) := by decide +kernel
theorem dX11_deep_33 : decode cX11_deep 33 = .ok (.iconst 4, 1) := by decide +kernel
theorem dX11_deep_34 : decode cX11_deep 34 = .ok (.iload_n 2, 1) := by decide +kernel
theorem dX11_deep_35 : decode cX11_deep 35 = .ok (.imul, 1) := by decide +kernel
theorem dX11_deep_36 : decode cX11_deep 36 = .ok (.iadd, 1) := by decide +kernel
theorem dX11_deep_37 : decode cX11_deep 37 = .ok (.iaload, 1) := by decide +kernel
theorem dX11_deep_38 : decode cX11_deep 38 = .ok (.invokevirtual 232, 3) := by decide +kernel
theorem dX11_deep_41 : decode cX11_deep 41 = .ok (.ireturn, 1) := by decide +kernel
theorem dX11_term_0 : decode cX11_term 0 = .ok (.aload_n 0, 1) := by decide +kernel
theorem dX11_term_1 : decode cX11_term 1 = .ok (.iconst 0, 1) := by decide +kernel
theorem dX11_term_2 : decode cX11_term 2 = .ok (.putfield 104, 3) := by decide +kernel
theorem dX11_term_5 : decode cX11_term 5 = .ok (.iload_n 1, 1) := by decide +kernel
theorem dX11_term_6 : decode cX11_term 6 = .ok (.invokestatic 226, 3) := by decide +kernel
theorem dX11_term_9 : decode cX11_term 9 = .ok (.ifCond .eq 16, 3) := by decide +kernel
theorem dX11_term_12 : decode cX11_term 12 = .ok (.iload_n 2, 1) := by decide +kernel
theorem dX11_term_13 : decode cX11_term 13 = .ok (.iconst 0, 1) := by decide +kernel
theorem dX11_term_14 : decode cX11_term 14 = .ok (.iconst 1, 1) := by decide +kernel
theorem dX11_term_15 : decode cX11_term 15 = .ok (.invokestatic 122, 3) := by decide +kernel
theorem dX11_term_18 : decode cX11_term 18 = .ok (.ifCond .eq 7, 3) := by decide +kernel
theorem dX11_term_21 : decode cX11_term 21 = .ok (.iload_n 3, 1) := by decide +kernel
theorem dX11_term_22 : decode cX11_term 22 = .ok (.ifCond .ge 5, 3) := by decide +kernel
theorem dX11_term_25 : decode cX11_term 25 = .ok (.iconst (-1), 1) := by decide +kernel
theorem dX11_term_26 : decode cX11_term 26 = .ok (.ireturn, 1) := by decide +kernel
theorem dX11_term_27 : decode cX11_term 27 = .ok (.aload_n 0, 1) := by decide +kernel
theorem dX11_term_28 : decode cX11_term 28 = .ok (.invokevirtual 229, 3) := by decide +kernel
theorem dX11_term_31 : decode cX11_term 31 = .ok (.aload_n 0, 1) := by decide +kernel
theorem dX11_term_32 : decode cX11_term 32 = .ok (.aload_n 0, 1) := by decide +kernel
theorem dX11_term_33 : decode cX11_term 33 = .ok (.getfield 92, 3) := by decide +kernel
theorem dX11_term_36 : decode cX11_term 36 = .ok (.iload_n 1, 1) := by decide +kernel
theorem dX11_term_37 : decode cX11_term 37 = .ok (.iconst 4, 1) := by decide +kernel
theorem dX11_term_38 : decode cX11_term 38 = .ok (.iload_n 2, 1) := by decide +kernel
theorem dX11_term_39 : decode cX11_term 39 = .ok (.imul, 1) := by decide +kernel
theorem dX11_term_40 : decode cX11_term 40 = .ok (.iadd, 1) := by decide +kernel
theorem dX11_term_41 : decode cX11_term 41 = .ok (.iaload, 1) := by decide +kernel
theorem dX11_term_42 : decode cX11_term 42 = .ok (.iload_n 3, 1) := by decide +kernel
theorem dX11_term_43 : decode cX11_term 43 = .ok (.invokevirtual 236, 3) := by decide +kernel
theorem dX11_term_46 : decode cX11_term 46 = .ok (.istore 4, 2) := by decide +kernel
theorem dX11_term_48 : decode cX11_term 48 = .ok (.iload 4, 2) := by decide +kernel
theorem dX11_term_50 : decode cX11_term 50 = .ok (.bipush (-9), 2) := by decide +kernel
theorem dX11_term_52 : decode cX11_term 52 = .ok (.if_icmp .ne 8, 3) := by decide +kernel
theorem dX11_term_55 : decode cX11_term 55 = .ok (.bipush (-9), 2) := by decide +kernel
theorem dX11_term_57 : decode cX11_term 57 = .ok (.goto 45, 3) := by decide +kernel
theorem dX11_term_60 : decode cX11_term 60 = .ok (.aload_n 0, 1) := by decide +kernel
theorem dX11_term_61 : decode cX11_term 61 = .ok (.getfield 38, 3) := by decide +kernel
theorem dX11_term_64 : decode cX11_term 64 = .ok (.iload 4, 2) := by decide +kernel
theorem dX11_term_66 : decode cX11_term 66 = .ok (.iaload, 1) := by decide +kernel
theorem dX11_term_67 : decode cX11_term 67 = .ok (.iconst 4, 1) := by decide +kernel
theorem dX11_term_68 : decode cX11_term 68 = .ok (.if_icmp .ge 16, 3) := by decide +kernel
theorem dX11_term_71 : decode cX11_term 71 = .ok (.bipush 97, 2) := by decide +kernel
theorem dX11_term_73 : decode cX11_term 73 = .ok (.aload_n 0, 1) := by decide +kernel
end
section
theorem dX11_term_74 : decode cX11_term 74 = .ok (.getfield 38, 3) := by decide +kernel
theorem dX11_term_77 : decode cX11_term 77 = .ok (.iload 4, 2) := by decide +kernel
theorem dX11_term_79 : decode cX11_term 79 = .ok (.iaload, 1) := by decide +kernel
theorem dX11_term_80 : decode cX11_term 80 = .ok (.iadd, 1) := by decide +kernel
theorem dX11_term_81 : decode cX11_term 81 = .ok (.goto 21, 3) := by decide +kernel
theorem dX11_term_84 : decode cX11_term 84 = .ok (.aload_n 0, 1) := by decide +kernel
theorem dX11_term_85 : decode cX11_term 85 = .ok (.getfield 38, 3) := by decide +kernel
theorem dX11_term_88 : decode cX11_term 88 = .ok (.iload 4, 2) := by decide +kernel
theorem dX11_term_90 : decode cX11_term 90 = .ok (.iaload, 1) := by decide +kernel
theorem dX11_term_91 : decode cX11_term 91 = .ok (.iconst 4, 1) := by decide +kernel
theorem dX11_term_92 : decode cX11_term 92 = .ok (.if_icmp .ne 8, 3) := by decide +kernel
theorem dX11_term_95 : decode cX11_term 95 = .ok (.bipush 102, 2) := by decide +kernel
theorem dX11_term_97 : decode cX11_term 97 = .ok (.goto 5, 3) := by decide +kernel
theorem dX11_term_100 : decode cX11_term 100 = .ok (.bipush 103, 2) := by decide +kernel
theorem dX11_term_102 : decode cX11_term 102 = .ok (.ireturn, 1) := by decide +kernel
theorem dX11_step_0 : decode cX11_step 0 = .ok (.aload_n 0, 1) := by decide +kernel
theorem dX11_step_1 : decode cX11_step 1 = .ok (.iconst 0, 1) := by decide +kernel
theorem dX11_step_2 : decode cX11_step 2 = .ok (.putfield 104, 3) := by decide +kernel
theorem dX11_step_5 : decode cX11_step 5 = .ok (.iload_n 1, 1) := by decide +kernel
theorem dX11_step_6 : decode cX11_step 6 = .ok (.iconst 0, 1) := by decide +kernel
theorem dX11_step_7 : decode cX11_step 7 = .ok (.aload_n 0, 1) := by decide +kernel
theorem dX11_step_8 : decode cX11_step 8 = .ok (.getfield 20, 3) := by decide +kernel
theorem dX11_step_11 : decode cX11_step 11 = .ok (.iconst 0, 1) := by decide +kernel
theorem dX11_step_12 : decode cX11_step 12 = .ok (.iaload, 1) := by decide +kernel
theorem dX11_step_13 : decode cX11_step 13 = .ok (.iconst 1, 1) := by decide +kernel
theorem dX11_step_14 : decode cX11_step 14 = .ok (.isub, 1) := by decide +kernel
theorem dX11_step_15 : decode cX11_step 15 = .ok (.invokestatic 122, 3) := by decide +kernel
theorem dX11_step_18 : decode cX11_step 18 = .ok (.ifCond .ne 5, 3) := by decide +kernel
theorem dX11_step_21 : decode cX11_step 21 = .ok (.iconst (-1), 1) := by decide +kernel
theorem dX11_step_22 : decode cX11_step 22 = .ok (.ireturn, 1) := by decide +kernel
theorem dX11_step_23 : decode cX11_step 23 = .ok (.aload_n 0, 1) := by decide +kernel
theorem dX11_step_24 : decode cX11_step 24 = .ok (.invokevirtual 229, 3) := by decide +kernel
theorem dX11_step_27 : decode cX11_step 27 = .ok (.aload_n 0, 1) := by decide +kernel
theorem dX11_step_28 : decode cX11_step 28 = .ok (.getfield 86, 3) := by decide +kernel
theorem dX11_step_31 : decode cX11_step 31 = .ok (.iload_n 1, 1) := by decide +kernel
theorem dX11_step_32 : decode cX11_step 32 = .ok (.iaload, 1) := by decide +kernel
theorem dX11_step_33 : decode cX11_step 33 = .ok (.ireturn, 1) := by decide +kernel
theorem dX11_length_0 : decode cX11_length 0 = .ok (.aload_n 0, 1) := by decide +kernel
theorem dX11_length_1 : decode cX11_length 1 = .ok (.iconst 0, 1) := by decide +kernel
theorem dX11_length_2 : decode cX11_length 2 = .ok (.putfield 104, 3) := by decide +kernel
theorem dX11_length_5 : decode cX11_length 5 = .ok (.aload_n 0, 1) := by decide +kernel
theorem dX11_length_6 : decode cX11_length 6 = .ok (.invokevirtual 229, 3) := by decide +kernel
theorem dX11_length_9 : decode cX11_length 9 = .ok (.aload_n 0, 1) := by decide +kernel
theorem dX11_length_10 : decode cX11_length 10 = .ok (.getfield 20, 3) := by decide +kernel
theorem dX11_length_13 : decode cX11_length 13 = .ok (.iconst 0, 1) := by decide +kernel
theorem dX11_length_14 : decode cX11_length 14 = .ok (.iaload, 1) := by decide +kernel
theorem dX11_length_15 : decode cX11_length 15 = .ok (.ifCond .ne 7, 3) := by decide +kernel
theorem dX11_length_18 : decode cX11_length 18 = .ok (.iconst 0, 1) := by decide +kernel
theorem dX11_length_19 : decode cX11_length 19 = .ok (.goto 26, 3) := by decide +kernel
theorem dX11_length_22 : decode cX11_length 22 = .ok (.aload_n 0, 1) := by decide +kernel
theorem dX11_length_23 : decode cX11_length 23 = .ok (.getfield 86, 3) := by decide +kernel
theorem dX11_length_26 : decode cX11_length 26 = .ok (.aload_n 0, 1) := by decide +kernel
theorem dX11_length_27 : decode cX11_length 27 = .ok (.getfield 20, 3) := by decide +kernel
theorem dX11_length_30 : decode cX11_length 30 = .ok (.iconst 0, 1) := by decide +kernel
theorem dX11_length_31 : decode cX11_length 31 = .ok (.iaload, 1) := by decide +kernel
theorem dX11_length_32 : decode cX11_length 32 = .ok (.iconst 1, 1) := by decide +kernel
theorem dX11_length_33 : decode cX11_length 33 = .ok (.isub, 1) := by decide +kernel
theorem dX11_length_34 : decode cX11_length 34 = .ok (.iaload, 1) := by decide +kernel
theorem dX11_length_35 : decode cX11_length 35 = .ok (.iconst 1, 1) := by decide +kernel
theorem dX11_length_36 : decode cX11_length 36 = .ok (.iadd, 1) := by decide +kernel
theorem dX11_length_37 : decode cX11_length 37 = .ok (.aload_n 0, 1) := by decide +kernel
theorem dX11_length_38 : decode cX11_length 38 = .ok (.getfield 20, 3) := by decide +kernel
theorem dX11_length_41 : decode cX11_length 41 = .ok (.bipush 26, 2) := by decide +kernel
theorem dX11_length_43 : decode cX11_length 43 = .ok (.iaload, 1) := by decide +kernel
theorem dX11_length_44 : decode cX11_length 44 = .ok (.iadd, 1) := by decide +kernel
theorem dX11_length_45 : decode cX11_length 45 = .ok (.ireturn, 1) := by decide +kernel
theorem dX11_wrong_0 : decode cX11_wrong 0 = .ok (.aload_n 0, 1) := by decide +kernel
theorem dX11_wrong_1 : decode cX11_wrong 1 = .ok (.iconst 0, 1) := by decide +kernel
theorem dX11_wrong_2 : decode cX11_wrong 2 = .ok (.putfield 104, 3) := by decide +kernel
theorem dX11_wrong_5 : decode cX11_wrong 5 = .ok (.aload_n 0, 1) := by decide +kernel
theorem dX11_wrong_6 : decode cX11_wrong 6 = .ok (.invokevirtual 229, 3) := by decide +kernel
theorem dX11_wrong_9 : decode cX11_wrong 9 = .ok (.aload_n 0, 1) := by decide +kernel
theorem dX11_wrong_10 : decode cX11_wrong 10 = .ok (.aload_n 0, 1) := by decide +kernel
theorem dX11_wrong_11 : decode cX11_wrong 11 = .ok (.getfield 20, 3) := by decide +kernel
theorem dX11_wrong_14 : decode cX11_wrong 14 = .ok (.bipush 25, 2) := by decide +kernel
theorem dX11_wrong_16 : decode cX11_wrong 16 = .ok (.iaload, 1) := by decide +kernel
theorem dX11_wrong_17 : decode cX11_wrong 17 = .ok (.invokevirtual 239, 3) := by decide +kernel
theorem dX11_wrong_20 : decode cX11_wrong 20 = .ok (.ireturn, 1) := by decide +kernel
theorem dX11_needed_0 : decode cX11_needed 0 = .ok (.aload_n 0, 1) := by decide +kernel
theorem dX11_needed_1 : decode cX11_needed 1 = .ok (.iconst 0, 1) := by decide +kernel
theorem dX11_needed_2 : decode cX11_needed 2 = .ok (.putfield 104, 3) := by decide +kernel
theorem dX11_needed_5 : decode cX11_needed 5 = .ok (.iconst 0, 1) := by decide +kernel
theorem dX11_needed_6 : decode cX11_needed 6 = .ok (.istore_n 1, 1) := by decide +kernel
theorem dX11_needed_7 : decode cX11_needed 7 = .ok (.iload_n 1, 1) := by decide +kernel
theorem dX11_needed_8 : decode cX11_needed 8 = .ok (.iconst 4, 1) := by decide +kernel
theorem dX11_needed_9 : decode cX11_needed 9 = .ok (.if_icmp .ge 53, 3) := by decide +kernel
theorem dX11_needed_12 : decode cX11_needed 12 = .ok (.iconst 0, 1) := by decide +kernel
theorem dX11_needed_13 : decode cX11_needed 13 = .ok (.istore_n 2, 1) := by decide +kernel
theorem dX11_needed_14 : decode cX11_needed 14 = .ok (.iload_n 2, 1) := by decide +kernel
theorem dX11_needed_15 : decode cX11_needed 15 = .ok (.bipush 8, 2) := by decide +kernel
theorem dX11_needed_17 : decode cX11_needed 17 = .ok (.if_icmp .ge 39, 3) := by decide +kernel
theorem dX11_needed_20 : decode cX11_needed 20 = .ok (.iload_n 2, 1) := by decide +kernel
theorem dX11_needed_21 : decode cX11_needed 21 = .ok (.invokestatic 242, 3) := by decide +kernel
theorem dX11_needed_24 : decode cX11_needed 24 = .ok (.iload_n 1, 1) := by decide +kernel
theorem dX11_needed_25 : decode cX11_needed 25 = .ok (.if_icmp .ne 25, 3) := by decide +kernel
theorem dX11_needed_28 : decode cX11_needed 28 = .ok (.aload_n 0, 1) := by decide +kernel
theorem dX11_needed_29 : decode cX11_needed 29 = .ok (.iload_n 2, 1) := by decide +kernel
theorem dX11_needed_30 : decode cX11_needed 30 = .ok (.iconst 0, 1) := by decide +kernel
theorem dX11_needed_31 : decode cX11_needed 31 = .ok (.invokevirtual 220, 3) := by decide +kernel
theorem dX11_needed_34 : decode cX11_needed 34 = .ok (.aload_n 0, 1) := by decide +kernel
theorem dX11_needed_35 : decode cX11_needed 35 = .ok (.aload_n 0, 1) := by decide +kernel
theorem dX11_needed_36 : decode cX11_needed 36 = .ok (.getfield 20, 3) := by decide +kernel
theorem dX11_needed_39 : decode cX11_needed 39 = .ok (.bipush 25, 2) := by decide +kernel
theorem dX11_needed_41 : decode cX11_needed 41 = .ok (.iaload, 1) := by decide +kernel
theorem dX11_needed_42 : decode cX11_needed 42 = .ok (.invokevirtual 239, 3) := by decide +kernel
theorem dX11_needed_45 : decode cX11_needed 45 = .ok (.ifCond .ne 5, 3) := by decide +kernel
theorem dX11_needed_48 : decode cX11_needed 48 = .ok (.iload_n 2, 1) := by decide +kernel
theorem dX11_needed_49 : decode cX11_needed 49 = .ok (.ireturn, 1) := by decide +kernel
theorem dX11_needed_50 : decode cX11_needed 50 = .ok (.iinc 2 1, 3) := by decide +kernel
theorem dX11_needed_53 : decode cX11_needed 53 = .ok (.goto (-39), 3) := by decide +kernel
theorem dX11_needed_56 : decode cX11_needed 56 = .ok (.iinc 1 1, 3) := by decide +kernel
theorem dX11_needed_59 : decode cX11_needed 59 = .ok (.goto (-52), 3) := by decide +kernel
theorem dX11_needed_62 : decode cX11_needed 62 = .ok (.bipush (-9), 2) := by decide +kernel
theorem dX11_needed_64 : decode cX11_needed 64 = .ok (.ireturn, 1) := by decide +kernel
theorem dX11_fewest_0 : decode cX11_fewest 0 = .ok (.aload_n 0, 1) := by decide +kernel
theorem dX11_fewest_1 : decode cX11_fewest 1 = .ok (.iconst 0, 1) := by decide +kernel
theorem dX11_fewest_2 : decode cX11_fewest 2 = .ok (.putfield 104, 3) := by decide +kernel
theorem dX11_fewest_5 : decode cX11_fewest 5 = .ok (.aload_n 0, 1) := by decide +kernel
theorem dX11_fewest_6 : decode cX11_fewest 6 = .ok (.invokevirtual 229, 3) := by decide +kernel
theorem dX11_fewest_9 : decode cX11_fewest 9 = .ok (.iconst 0, 1) := by decide +kernel
theorem dX11_fewest_10 : decode cX11_fewest 10 = .ok (.istore_n 1, 1) := by decide +kernel
theorem dX11_fewest_11 : decode cX11_fewest 11 = .ok (.iload_n 1, 1) := by decide +kernel
theorem dX11_fewest_12 : decode cX11_fewest 12 = .ok (.aload_n 0, 1) := by decide +kernel
theorem dX11_fewest_13 : decode cX11_fewest 13 = .ok (.getfield 162, 3) := by decide +kernel
theorem dX11_fewest_16 : decode cX11_fewest 16 = .ok (.if_icmp .gt 59, 3) := by decide +kernel
theorem dX11_fewest_19 : decode cX11_fewest 19 = .ok (.iconst 0, 1) := by decide +kernel
theorem dX11_fewest_20 : decode cX11_fewest 20 = .ok (.istore_n 2, 1) := by decide +kernel
theorem dX11_fewest_21 : decode cX11_fewest 21 = .ok (.iload_n 2, 1) := by decide +kernel
theorem dX11_fewest_22 : decode cX11_fewest 22 = .ok (.iconst 1, 1) := by decide +kernel
theorem dX11_fewest_23 : decode cX11_fewest 23 = .ok (.aload_n 0, 1) := by decide +kernel
theorem dX11_fewest_24 : decode cX11_fewest 24 = .ok (.getfield 162, 3) := by decide +kernel
theorem dX11_fewest_27 : decode cX11_fewest 27 = .ok (.ishl, 1) := by decide +kernel
theorem dX11_fewest_28 : decode cX11_fewest 28 = .ok (.if_icmp .ge 41, 3) := by decide +kernel
theorem dX11_fewest_31 : decode cX11_fewest 31 = .ok (.iload_n 2, 1) := by decide +kernel
theorem dX11_fewest_32 : decode cX11_fewest 32 = .ok (.invokestatic 242, 3) := by decide +kernel
theorem dX11_fewest_35 : decode cX11_fewest 35 = .ok (.iload_n 1, 1) := by decide +kernel
theorem dX11_fewest_36 : decode cX11_fewest 36 = .ok (.if_icmp .ne 27, 3) := by decide +kernel
theorem dX11_fewest_39 : decode cX11_fewest 39 = .ok (.iload_n 2, 1) := by decide +kernel
theorem dX11_fewest_40 : decode cX11_fewest 40 = .ok (.aload_n 0, 1) := by decide +kernel
theorem dX11_fewest_41 : decode cX11_fewest 41 = .ok (.getfield 20, 3) := by decide +kernel
theorem dX11_fewest_44 : decode cX11_fewest 44 = .ok (.bipush 25, 2) := by decide +kernel
theorem dX11_fewest_46 : decode cX11_fewest 46 = .ok (.iaload, 1) := by decide +kernel
theorem dX11_fewest_47 : decode cX11_fewest 47 = .ok (.iconst (-1), 1) := by decide +kernel
theorem dX11_fewest_48 : decode cX11_fewest 48 = .ok (.ixor, 1) := by decide +kernel
theorem dX11_fewest_49 : decode cX11_fewest 49 = .ok (.iand, 1) := by decide +kernel
theorem dX11_fewest_50 : decode cX11_fewest 50 = .ok (.ifCond .ne 13, 3) := by decide +kernel
theorem dX11_fewest_53 : decode cX11_fewest 53 = .ok (.aload_n 0, 1) := by decide +kernel
theorem dX11_fewest_54 : decode cX11_fewest 54 = .ok (.iload_n 2, 1) := by decide +kernel
theorem dX11_fewest_55 : decode cX11_fewest 55 = .ok (.invokevirtual 239, 3) := by decide +kernel
theorem dX11_fewest_58 : decode cX11_fewest 58 = .ok (.ifCond .ne 5, 3) := by decide +kernel
theorem dX11_fewest_61 : decode cX11_fewest 61 = .ok (.iload_n 2, 1) := by decide +kernel
theorem dX11_fewest_62 : decode cX11_fewest 62 = .ok (.ireturn, 1) := by decide +kernel
theorem dX11_fewest_63 : decode cX11_fewest 63 = .ok (.iinc 2 1, 3) := by decide +kernel
theorem dX11_fewest_66 : decode cX11_fewest 66 = .ok (.goto (-45), 3) := by decide +kernel
theorem dX11_fewest_69 : decode cX11_fewest 69 = .ok (.iinc 1 1, 3) := by decide +kernel
theorem dX11_fewest_72 : decode cX11_fewest 72 = .ok (.goto (-61), 3) := by decide +kernel
theorem dX11_fewest_75 : decode cX11_fewest 75 = .ok (.bipush (-9), 2) := by decide +kernel
theorem dX11_fewest_77 : decode cX11_fewest 77 = .ok (.ireturn, 1) := by decide +kernel
theorem dX11_unlike_0 : decode cX11_unlike 0 = .ok (.iconst 0, 1) := by decide +kernel
theorem dX11_unlike_1 : decode cX11_unlike 1 = .ok (.istore_n 1, 1) := by decide +kernel
theorem dX11_unlike_2 : decode cX11_unlike 2 = .ok (.iconst 0, 1) := by decide +kernel
theorem dX11_unlike_3 : decode cX11_unlike 3 = .ok (.istore_n 2, 1) := by decide +kernel
theorem dX11_unlike_4 : decode cX11_unlike 4 = .ok (.iload_n 2, 1) := by decide +kernel
theorem dX11_unlike_5 : decode cX11_unlike 5 = .ok (.iconst 4, 1) := by decide +kernel
theorem dX11_unlike_6 : decode cX11_unlike 6 = .ok (.if_icmp .ge 36, 3) := by decide +kernel
theorem dX11_unlike_9 : decode cX11_unlike 9 = .ok (.iload_n 1, 1) := by decide +kernel
theorem dX11_unlike_10 : decode cX11_unlike 10 = .ok (.aload_n 0, 1) := by decide +kernel
theorem dX11_unlike_11 : decode cX11_unlike 11 = .ok (.getfield 92, 3) := by decide +kernel
theorem dX11_unlike_14 : decode cX11_unlike 14 = .ok (.iload_n 2, 1) := by decide +kernel
theorem dX11_unlike_15 : decode cX11_unlike 15 = .ok (.iaload, 1) := by decide +kernel
theorem dX11_unlike_16 : decode cX11_unlike 16 = .ok (.aload_n 0, 1) := by decide +kernel
theorem dX11_unlike_17 : decode cX11_unlike 17 = .ok (.getfield 92, 3) := by decide +kernel
theorem dX11_unlike_20 : decode cX11_unlike 20 = .ok (.iload_n 2, 1) := by decide +kernel
theorem dX11_unlike_21 : decode cX11_unlike 21 = .ok (.iconst 4, 1) := by decide +kernel
theorem dX11_unlike_22 : decode cX11_unlike 22 = .ok (.iadd, 1) := by decide +kernel
theorem dX11_unlike_23 : decode cX11_unlike 23 = .ok (.iaload, 1) := by decide +kernel
theorem dX11_unlike_24 : decode cX11_unlike 24 = .ok (.if_icmp .ne 7, 3) := by decide +kernel
theorem dX11_unlike_27 : decode cX11_unlike 27 = .ok (.iconst 0, 1) := by decide +kernel
theorem dX11_unlike_28 : decode cX11_unlike 28 = .ok (.goto 6, 3) := by decide +kernel
theorem dX11_unlike_31 : decode cX11_unlike 31 = .ok (.iconst 1, 1) := by decide +kernel
theorem dX11_unlike_32 : decode cX11_unlike 32 = .ok (.iload_n 2, 1) := by decide +kernel
theorem dX11_unlike_33 : decode cX11_unlike 33 = .ok (.ishl, 1) := by decide +kernel
theorem dX11_unlike_34 : decode cX11_unlike 34 = .ok (.ior, 1) := by decide +kernel
theorem dX11_unlike_35 : decode cX11_unlike 35 = .ok (.istore_n 1, 1) := by decide +kernel
theorem dX11_unlike_36 : decode cX11_unlike 36 = .ok (.iinc 2 1, 3) := by decide +kernel
theorem dX11_unlike_39 : decode cX11_unlike 39 = .ok (.goto (-35), 3) := by decide +kernel
theorem dX11_unlike_42 : decode cX11_unlike 42 = .ok (.iload_n 1, 1) := by decide +kernel
theorem dX11_unlike_43 : decode cX11_unlike 43 = .ok (.ireturn, 1) := by decide +kernel
theorem dX11_breaks_0 : decode cX11_breaks 0 = .ok (.aload_n 0, 1) := by decide +kernel
theorem dX11_breaks_1 : decode cX11_breaks 1 = .ok (.getfield 20, 3) := by decide +kernel
theorem dX11_breaks_4 : decode cX11_breaks 4 = .ok (.iconst 0, 1) := by decide +kernel
theorem dX11_breaks_5 : decode cX11_breaks 5 = .ok (.iload_n 1, 1) := by decide +kernel
theorem dX11_breaks_6 : decode cX11_breaks 6 = .ok (.iastore, 1) := by decide +kernel
theorem dX11_breaks_7 : decode cX11_breaks 7 = .ok (.iconst 0, 1) := by decide +kernel
theorem dX11_breaks_8 : decode cX11_breaks 8 = .ok (.istore_n 3, 1) := by decide +kernel
theorem dX11_breaks_9 : decode cX11_breaks 9 = .ok (.iload_n 3, 1) := by decide +kernel
theorem dX11_breaks_10 : decode cX11_breaks 10 = .ok (.iload_n 1, 1) := by decide +kernel
theorem dX11_breaks_11 : decode cX11_breaks 11 = .ok (.if_icmp .ge 84, 3) := by decide +kernel
theorem dX11_breaks_14 : decode cX11_breaks 14 = .ok (.iload_n 2, 1) := by decide +kernel
theorem dX11_breaks_15 : decode cX11_breaks 15 = .ok (.iconst 3, 1) := by decide +kernel
theorem dX11_breaks_16 : decode cX11_breaks 16 = .ok (.iload_n 1, 1) := by decide +kernel
theorem dX11_breaks_17 : decode cX11_breaks 17 = .ok (.iconst 1, 1) := by decide +kernel
theorem dX11_breaks_18 : decode cX11_breaks 18 = .ok (.isub, 1) := by decide +kernel
theorem dX11_breaks_19 : decode cX11_breaks 19 = .ok (.iload_n 3, 1) := by decide +kernel
theorem dX11_breaks_20 : decode cX11_breaks 20 = .ok (.isub, 1) := by decide +kernel
theorem dX11_breaks_21 : decode cX11_breaks 21 = .ok (.imul, 1) := by decide +kernel
theorem dX11_breaks_22 : decode cX11_breaks 22 = .ok (.ishr, 1) := by decide +kernel
theorem dX11_breaks_23 : decode cX11_breaks 23 = .ok (.bipush 7, 2) := by decide +kernel
theorem dX11_breaks_25 : decode cX11_breaks 25 = .ok (.iand, 1) := by decide +kernel
theorem dX11_breaks_26 : decode cX11_breaks 26 = .ok (.istore 4, 2) := by decide +kernel
theorem dX11_breaks_28 : decode cX11_breaks 28 = .ok (.aload_n 0, 1) := by decide +kernel
theorem dX11_breaks_29 : decode cX11_breaks 29 = .ok (.getfield 20, 3) := by decide +kernel
theorem dX11_breaks_32 : decode cX11_breaks 32 = .ok (.iconst 1, 1) := by decide +kernel
theorem dX11_breaks_33 : decode cX11_breaks 33 = .ok (.iconst 4, 1) := by decide +kernel
theorem dX11_breaks_34 : decode cX11_breaks 34 = .ok (.iload_n 3, 1) := by decide +kernel
theorem dX11_breaks_35 : decode cX11_breaks 35 = .ok (.imul, 1) := by decide +kernel
theorem dX11_breaks_36 : decode cX11_breaks 36 = .ok (.iadd, 1) := by decide +kernel
theorem dX11_breaks_37 : decode cX11_breaks 37 = .ok (.iconst 2, 1) := by decide +kernel
theorem dX11_breaks_38 : decode cX11_breaks 38 = .ok (.iastore, 1) := by decide +kernel
theorem dX11_breaks_39 : decode cX11_breaks 39 = .ok (.aload_n 0, 1) := by decide +kernel
theorem dX11_breaks_40 : decode cX11_breaks 40 = .ok (.getfield 20, 3) := by decide +kernel
theorem dX11_breaks_43 : decode cX11_breaks 43 = .ok (.iconst 1, 1) := by decide +kernel
theorem dX11_breaks_44 : decode cX11_breaks 44 = .ok (.iconst 4, 1) := by decide +kernel
theorem dX11_breaks_45 : decode cX11_breaks 45 = .ok (.iload_n 3, 1) := by decide +kernel
theorem dX11_breaks_46 : decode cX11_breaks 46 = .ok (.imul, 1) := by decide +kernel
theorem dX11_breaks_47 : decode cX11_breaks 47 = .ok (.iadd, 1) := by decide +kernel
theorem dX11_breaks_48 : decode cX11_breaks 48 = .ok (.iconst 1, 1) := by decide +kernel
theorem dX11_breaks_49 : decode cX11_breaks 49 = .ok (.iadd, 1) := by decide +kernel
theorem dX11_breaks_50 : decode cX11_breaks 50 = .ok (.iload 4, 2) := by decide +kernel
theorem dX11_breaks_52 : decode cX11_breaks 52 = .ok (.iconst 2, 1) := by decide +kernel
theorem dX11_breaks_53 : decode cX11_breaks 53 = .ok (.ishr, 1) := by decide +kernel
theorem dX11_breaks_54 : decode cX11_breaks 54 = .ok (.iastore, 1) := by decide +kernel
theorem dX11_breaks_55 : decode cX11_breaks 55 = .ok (.aload_n 0, 1) := by decide +kernel
theorem dX11_breaks_56 : decode cX11_breaks 56 = .ok (.getfield 20, 3) := by decide +kernel
theorem dX11_breaks_59 : decode cX11_breaks 59 = .ok (.iconst 1, 1) := by decide +kernel
theorem dX11_breaks_60 : decode cX11_breaks 60 = .ok (.iconst 4, 1) := by decide +kernel
theorem dX11_breaks_61 : decode cX11_breaks 61 = .ok (.iload_n 3, 1) := by decide +kernel
theorem dX11_breaks_62 : decode cX11_breaks 62 = .ok (.imul, 1) := by decide +kernel
theorem dX11_breaks_63 : decode cX11_breaks 63 = .ok (.iadd, 1) := by decide +kernel
theorem dX11_breaks_64 : decode cX11_breaks 64 = .ok (.iconst 2, 1) := by decide +kernel
theorem dX11_breaks_65 : decode cX11_breaks 65 = .ok (.iadd, 1) := by decide +kernel
theorem dX11_breaks_66 : decode cX11_breaks 66 = .ok (.iload 4, 2) := by decide +kernel
theorem dX11_breaks_68 : decode cX11_breaks 68 = .ok (.iconst 1, 1) := by decide +kernel
theorem dX11_breaks_69 : decode cX11_breaks 69 = .ok (.ishr, 1) := by decide +kernel
theorem dX11_breaks_70 : decode cX11_breaks 70 = .ok (.iconst 1, 1) := by decide +kernel
theorem dX11_breaks_71 : decode cX11_breaks 71 = .ok (.iand, 1) := by decide +kernel
theorem dX11_breaks_72 : decode cX11_breaks 72 = .ok (.iastore, 1) := by decide +kernel
theorem dX11_breaks_73 : decode cX11_breaks 73 = .ok (.aload_n 0, 1) := by decide +kernel
theorem dX11_breaks_74 : decode cX11_breaks 74 = .ok (.getfield 20, 3) := by decide +kernel
theorem dX11_breaks_77 : decode cX11_breaks 77 = .ok (.iconst 1, 1) := by decide +kernel
theorem dX11_breaks_78 : decode cX11_breaks 78 = .ok (.iconst 4, 1) := by decide +kernel
theorem dX11_breaks_79 : decode cX11_breaks 79 = .ok (.iload_n 3, 1) := by decide +kernel
theorem dX11_breaks_80 : decode cX11_breaks 80 = .ok (.imul, 1) := by decide +kernel
theorem dX11_breaks_81 : decode cX11_breaks 81 = .ok (.iadd, 1) := by decide +kernel
theorem dX11_breaks_82 : decode cX11_breaks 82 = .ok (.iconst 3, 1) := by decide +kernel
theorem dX11_breaks_83 : decode cX11_breaks 83 = .ok (.iadd, 1) := by decide +kernel
theorem dX11_breaks_84 : decode cX11_breaks 84 = .ok (.iload 4, 2) := by decide +kernel
theorem dX11_breaks_86 : decode cX11_breaks 86 = .ok (.iconst 1, 1) := by decide +kernel
theorem dX11_breaks_87 : decode cX11_breaks 87 = .ok (.iand, 1) := by decide +kernel
theorem dX11_breaks_88 : decode cX11_breaks 88 = .ok (.iastore, 1) := by decide +kernel
theorem dX11_breaks_89 : decode cX11_breaks 89 = .ok (.iinc 3 1, 3) := by decide +kernel
theorem dX11_breaks_92 : decode cX11_breaks 92 = .ok (.goto (-83), 3) := by decide +kernel
theorem dX11_breaks_95 : decode cX11_breaks 95 = .ok (.aload_n 0, 1) := by decide +kernel
theorem dX11_breaks_96 : decode cX11_breaks 96 = .ok (.invokevirtual 229, 3) := by decide +kernel
theorem dX11_breaks_99 : decode cX11_breaks 99 = .ok (.aload_n 0, 1) := by decide +kernel
theorem dX11_breaks_100 : decode cX11_breaks 100 = .ok (.invokevirtual 245, 3) := by decide +kernel
theorem dX11_breaks_103 : decode cX11_breaks 103 = .ok (.ifCond .eq 7, 3) := by decide +kernel
theorem dX11_breaks_106 : decode cX11_breaks 106 = .ok (.iconst 1, 1) := by decide +kernel
theorem dX11_breaks_107 : decode cX11_breaks 107 = .ok (.goto 4, 3) := by decide +kernel
theorem dX11_breaks_110 : decode cX11_breaks 110 = .ok (.iconst 0, 1) := by decide +kernel
theorem dX11_breaks_111 : decode cX11_breaks 111 = .ok (.ireturn, 1) := by decide +kernel
theorem dX11_breaker_0 : decode cX11_breaker 0 = .ok (.iconst 1, 1) := by decide +kernel
theorem dX11_breaker_1 : decode cX11_breaker 1 = .ok (.istore_n 1, 1) := by decide +kernel
theorem dX11_breaker_2 : decode cX11_breaker 2 = .ok (.iload_n 1, 1) := by decide +kernel
theorem dX11_breaker_3 : decode cX11_breaker 3 = .ok (.iconst 5, 1) := by decide +kernel
theorem dX11_breaker_4 : decode cX11_breaker 4 = .ok (.if_icmp .ge 42, 3) := by decide +kernel
theorem dX11_breaker_7 : decode cX11_breaker 7 = .ok (.iconst 0, 1) := by decide +kernel
theorem dX11_breaker_8 : decode cX11_breaker 8 = .ok (.istore_n 2, 1) := by decide +kernel
theorem dX11_breaker_9 : decode cX11_breaker 9 = .ok (.iload_n 2, 1) := by decide +kernel
theorem dX11_breaker_10 : decode cX11_breaker 10 = .ok (.iconst 1, 1) := by decide +kernel
theorem dX11_breaker_11 : decode cX11_breaker 11 = .ok (.iconst 3, 1) := by decide +kernel
theorem dX11_breaker_12 : decode cX11_breaker 12 = .ok (.iload_n 1, 1) := by decide +kernel
theorem dX11_breaker_13 : decode cX11_breaker 13 = .ok (.imul, 1) := by decide +kernel
theorem dX11_breaker_14 : decode cX11_breaker 14 = .ok (.ishl, 1) := by decide +kernel
theorem dX11_breaker_15 : decode cX11_breaker 15 = .ok (.if_icmp .ge 25, 3) := by decide +kernel
theorem dX11_breaker_18 : decode cX11_breaker 18 = .ok (.aload_n 0, 1) := by decide +kernel
theorem dX11_breaker_19 : decode cX11_breaker 19 = .ok (.iload_n 1, 1) := by decide +kernel
theorem dX11_breaker_20 : decode cX11_breaker 20 = .ok (.iload_n 2, 1) := by decide +kernel
theorem dX11_breaker_21 : decode cX11_breaker 21 = .ok (.invokevirtual 248, 3) := by decide +kernel
theorem dX11_breaker_24 : decode cX11_breaker 24 = .ok (.ifCond .eq 10, 3) := by decide +kernel
theorem dX11_breaker_27 : decode cX11_breaker 27 = .ok (.iload_n 1, 1) := by decide +kernel
theorem dX11_breaker_28 : decode cX11_breaker 28 = .ok (.bipush 12, 2) := by decide +kernel
theorem dX11_breaker_30 : decode cX11_breaker 30 = .ok (.ishl, 1) := by decide +kernel
theorem dX11_breaker_31 : decode cX11_breaker 31 = .ok (.iload_n 2, 1) := by decide +kernel
theorem dX11_breaker_32 : decode cX11_breaker 32 = .ok (.ior, 1) := by decide +kernel
theorem dX11_breaker_33 : decode cX11_breaker 33 = .ok (.ireturn, 1) := by decide +kernel
theorem dX11_breaker_34 : decode cX11_breaker 34 = .ok (.iinc 2 1, 3) := by decide +kernel
theorem dX11_breaker_37 : decode cX11_breaker 37 = .ok (.goto (-28), 3) := by decide +kernel
theorem dX11_breaker_40 : decode cX11_breaker 40 = .ok (.iinc 1 1, 3) := by decide +kernel
theorem dX11_breaker_43 : decode cX11_breaker 43 = .ok (.goto (-41), 3) := by decide +kernel
theorem dX11_breaker_46 : decode cX11_breaker 46 = .ok (.bipush (-9), 2) := by decide +kernel
theorem dX11_breaker_48 : decode cX11_breaker 48 = .ok (.ireturn, 1) := by decide +kernel
theorem dX11_broken_0 : decode cX11_broken 0 = .ok (.aload_n 0, 1) := by decide +kernel
theorem dX11_broken_1 : decode cX11_broken 1 = .ok (.iconst 0, 1) := by decide +kernel
theorem dX11_broken_2 : decode cX11_broken 2 = .ok (.putfield 104, 3) := by decide +kernel
theorem dX11_broken_5 : decode cX11_broken 5 = .ok (.iload_n 1, 1) := by decide +kernel
theorem dX11_broken_6 : decode cX11_broken 6 = .ok (.iconst (-1), 1) := by decide +kernel
theorem dX11_broken_7 : decode cX11_broken 7 = .ok (.if_icmp .ge 5, 3) := by decide +kernel
theorem dX11_broken_10 : decode cX11_broken 10 = .ok (.iconst (-1), 1) := by decide +kernel
theorem dX11_broken_11 : decode cX11_broken 11 = .ok (.ireturn, 1) := by decide +kernel
theorem dX11_broken_12 : decode cX11_broken 12 = .ok (.iconst 0, 1) := by decide +kernel
theorem dX11_broken_13 : decode cX11_broken 13 = .ok (.istore_n 2, 1) := by decide +kernel
theorem dX11_broken_14 : decode cX11_broken 14 = .ok (.iload_n 2, 1) := by decide +kernel
theorem dX11_broken_15 : decode cX11_broken 15 = .ok (.bipush 29, 2) := by decide +kernel
theorem dX11_broken_17 : decode cX11_broken 17 = .ok (.if_icmp .ge 21, 3) := by decide +kernel
theorem dX11_broken_20 : decode cX11_broken 20 = .ok (.aload_n 0, 1) := by decide +kernel
theorem dX11_broken_21 : decode cX11_broken 21 = .ok (.getfield 95, 3) := by decide +kernel
theorem dX11_broken_24 : decode cX11_broken 24 = .ok (.iload_n 2, 1) := by decide +kernel
theorem dX11_broken_25 : decode cX11_broken 25 = .ok (.aload_n 0, 1) := by decide +kernel
theorem dX11_broken_26 : decode cX11_broken 26 = .ok (.getfield 20, 3) := by decide +kernel
theorem dX11_broken_29 : decode cX11_broken 29 = .ok (.iload_n 2, 1) := by decide +kernel
theorem dX11_broken_30 : decode cX11_broken 30 = .ok (.iaload, 1) := by decide +kernel
theorem dX11_broken_31 : decode cX11_broken 31 = .ok (.iastore, 1) := by decide +kernel
theorem dX11_broken_32 : decode cX11_broken 32 = .ok (.iinc 2 1, 3) := by decide +kernel
theorem dX11_broken_35 : decode cX11_broken 35 = .ok (.goto (-21), 3) := by decide +kernel
theorem dX11_broken_38 : decode cX11_broken 38 = .ok (.aload_n 0, 1) := by decide +kernel
theorem dX11_broken_39 : decode cX11_broken 39 = .ok (.invokevirtual 251, 3) := by decide +kernel
theorem dX11_broken_42 : decode cX11_broken 42 = .ok (.istore_n 2, 1) := by decide +kernel
theorem dX11_broken_43 : decode cX11_broken 43 = .ok (.iconst 0, 1) := by decide +kernel
theorem dX11_broken_44 : decode cX11_broken 44 = .ok (.istore_n 3, 1) := by decide +kernel
theorem dX11_broken_45 : decode cX11_broken 45 = .ok (.iload_n 3, 1) := by decide +kernel
theorem dX11_broken_46 : decode cX11_broken 46 = .ok (.bipush 29, 2) := by decide +kernel
theorem dX11_broken_48 : decode cX11_broken 48 = .ok (.if_icmp .ge 21, 3) := by decide +kernel
theorem dX11_broken_51 : decode cX11_broken 51 = .ok (.aload_n 0, 1) := by decide +kernel
theorem dX11_broken_52 : decode cX11_broken 52 = .ok (.getfield 20, 3) := by decide +kernel
theorem dX11_broken_55 : decode cX11_broken 55 = .ok (.iload_n 3, 1) := by decide +kernel
theorem dX11_broken_56 : decode cX11_broken 56 = .ok (.aload_n 0, 1) := by decide +kernel
theorem dX11_broken_57 : decode cX11_broken 57 = .ok (.getfield 95, 3) := by decide +kernel
theorem dX11_broken_60 : decode cX11_broken 60 = .ok (.iload_n 3, 1) := by decide +kernel
theorem dX11_broken_61 : decode cX11_broken 61 = .ok (.iaload, 1) := by decide +kernel
theorem dX11_broken_62 : decode cX11_broken 62 = .ok (.iastore, 1) := by decide +kernel
theorem dX11_broken_63 : decode cX11_broken 63 = .ok (.iinc 3 1, 3) := by decide +kernel
theorem dX11_broken_66 : decode cX11_broken 66 = .ok (.goto (-21), 3) := by decide +kernel
theorem dX11_broken_69 : decode cX11_broken 69 = .ok (.iload_n 2, 1) := by decide +kernel
theorem dX11_broken_70 : decode cX11_broken 70 = .ok (.bipush (-9), 2) := by decide +kernel
theorem dX11_broken_72 : decode cX11_broken 72 = .ok (.if_icmp .ne 7, 3) := by decide +kernel
theorem dX11_broken_75 : decode cX11_broken 75 = .ok (.iconst 0, 1) := by decide +kernel
theorem dX11_broken_76 : decode cX11_broken 76 = .ok (.goto 7, 3) := by decide +kernel
theorem dX11_broken_79 : decode cX11_broken 79 = .ok (.iload_n 2, 1) := by decide +kernel
theorem dX11_broken_80 : decode cX11_broken 80 = .ok (.bipush 12, 2) := by decide +kernel
theorem dX11_broken_82 : decode cX11_broken 82 = .ok (.ishr, 1) := by decide +kernel
theorem dX11_broken_83 : decode cX11_broken 83 = .ok (.istore_n 3, 1) := by decide +kernel
theorem dX11_broken_84 : decode cX11_broken 84 = .ok (.iload_n 2, 1) := by decide +kernel
theorem dX11_broken_85 : decode cX11_broken 85 = .ok (.bipush (-9), 2) := by decide +kernel
theorem dX11_broken_87 : decode cX11_broken 87 = .ok (.if_icmp .eq 8, 3) := by decide +kernel
theorem dX11_broken_90 : decode cX11_broken 90 = .ok (.iload_n 1, 1) := by decide +kernel
theorem dX11_broken_91 : decode cX11_broken 91 = .ok (.iload_n 3, 1) := by decide +kernel
theorem dX11_broken_92 : decode cX11_broken 92 = .ok (.if_icmp .lt 6, 3) := by decide +kernel
theorem dX11_broken_95 : decode cX11_broken 95 = .ok (.bipush (-9), 2) := by decide +kernel
theorem dX11_broken_97 : decode cX11_broken 97 = .ok (.ireturn, 1) := by decide +kernel
theorem dX11_broken_98 : decode cX11_broken 98 = .ok (.iload_n 1, 1) := by decide +kernel
theorem dX11_broken_99 : decode cX11_broken 99 = .ok (.ifCond .ge 7, 3) := by decide +kernel
theorem dX11_broken_102 : decode cX11_broken 102 = .ok (.iload_n 3, 1) := by decide +kernel
theorem dX11_broken_103 : decode cX11_broken 103 = .ok (.goto 15, 3) := by decide +kernel
theorem dX11_broken_106 : decode cX11_broken 106 = .ok (.iload_n 2, 1) := by decide +kernel
theorem dX11_broken_107 : decode cX11_broken 107 = .ok (.iconst 3, 1) := by decide +kernel
theorem dX11_broken_108 : decode cX11_broken 108 = .ok (.iload_n 3, 1) := by decide +kernel
theorem dX11_broken_109 : decode cX11_broken 109 = .ok (.iconst 1, 1) := by decide +kernel
theorem dX11_broken_110 : decode cX11_broken 110 = .ok (.isub, 1) := by decide +kernel
theorem dX11_broken_111 : decode cX11_broken 111 = .ok (.iload_n 1, 1) := by decide +kernel
theorem dX11_broken_112 : decode cX11_broken 112 = .ok (.isub, 1) := by decide +kernel
theorem dX11_broken_113 : decode cX11_broken 113 = .ok (.imul, 1) := by decide +kernel
theorem dX11_broken_114 : decode cX11_broken 114 = .ok (.ishr, 1) := by decide +kernel
theorem dX11_broken_115 : decode cX11_broken 115 = .ok (.bipush 7, 2) := by decide +kernel
theorem dX11_broken_117 : decode cX11_broken 117 = .ok (.iand, 1) := by decide +kernel
theorem dX11_broken_118 : decode cX11_broken 118 = .ok (.ireturn, 1) := by decide +kernel
theorem dX11_notes_0 : decode cX11_notes 0 = .ok (.aload_n 0, 1) := by decide +kernel
theorem dX11_notes_1 : decode cX11_notes 1 = .ok (.getfield 165, 3) := by decide +kernel
theorem dX11_notes_4 : decode cX11_notes 4 = .ok (.bipush 10, 2) := by decide +kernel
theorem dX11_notes_6 : decode cX11_notes 6 = .ok (.if_icmp .ne 43, 3) := by decide +kernel
theorem dX11_notes_9 : decode cX11_notes 9 = .ok (.iconst 0, 1) := by decide +kernel
theorem dX11_notes_10 : decode cX11_notes 10 = .ok (.istore_n 1, 1) := by decide +kernel
theorem dX11_notes_11 : decode cX11_notes 11 = .ok (.iload_n 1, 1) := by decide +kernel
theorem dX11_notes_12 : decode cX11_notes 12 = .ok (.sipush 261, 3) := by decide +kernel
theorem dX11_notes_15 : decode cX11_notes 15 = .ok (.if_icmp .ge 24, 3) := by decide +kernel
theorem dX11_notes_18 : decode cX11_notes 18 = .ok (.aload_n 0, 1) := by decide +kernel
theorem dX11_notes_19 : decode cX11_notes 19 = .ok (.getfield 23, 3) := by decide +kernel
theorem dX11_notes_22 : decode cX11_notes 22 = .ok (.iload_n 1, 1) := by decide +kernel
theorem dX11_notes_23 : decode cX11_notes 23 = .ok (.aload_n 0, 1) := by decide +kernel
theorem dX11_notes_24 : decode cX11_notes 24 = .ok (.getfield 23, 3) := by decide +kernel
theorem dX11_notes_27 : decode cX11_notes 27 = .ok (.iload_n 1, 1) := by decide +kernel
theorem dX11_notes_28 : decode cX11_notes 28 = .ok (.bipush 29, 2) := by decide +kernel
theorem dX11_notes_30 : decode cX11_notes 30 = .ok (.iadd, 1) := by decide +kernel
theorem dX11_notes_31 : decode cX11_notes 31 = .ok (.iaload, 1) := by decide +kernel
theorem dX11_notes_32 : decode cX11_notes 32 = .ok (.iastore, 1) := by decide +kernel
theorem dX11_notes_33 : decode cX11_notes 33 = .ok (.iinc 1 1, 3) := by decide +kernel
theorem dX11_notes_36 : decode cX11_notes 36 = .ok (.goto (-25), 3) := by decide +kernel
theorem dX11_notes_39 : decode cX11_notes 39 = .ok (.aload_n 0, 1) := by decide +kernel
theorem dX11_notes_40 : decode cX11_notes 40 = .ok (.dup, 1) := by decide +kernel
theorem dX11_notes_41 : decode cX11_notes 41 = .ok (.getfield 165, 3) := by decide +kernel
theorem dX11_notes_44 : decode cX11_notes 44 = .ok (.iconst 1, 1) := by decide +kernel
theorem dX11_notes_45 : decode cX11_notes 45 = .ok (.isub, 1) := by decide +kernel
theorem dX11_notes_46 : decode cX11_notes 46 = .ok (.putfield 165, 3) := by decide +kernel
theorem dX11_notes_49 : decode cX11_notes 49 = .ok (.iconst 0, 1) := by decide +kernel
theorem dX11_notes_50 : decode cX11_notes 50 = .ok (.istore_n 1, 1) := by decide +kernel
theorem dX11_notes_51 : decode cX11_notes 51 = .ok (.iload_n 1, 1) := by decide +kernel
theorem dX11_notes_52 : decode cX11_notes 52 = .ok (.bipush 29, 2) := by decide +kernel
theorem dX11_notes_54 : decode cX11_notes 54 = .ok (.if_icmp .ge 29, 3) := by decide +kernel
theorem dX11_notes_57 : decode cX11_notes 57 = .ok (.aload_n 0, 1) := by decide +kernel
theorem dX11_notes_58 : decode cX11_notes 58 = .ok (.getfield 23, 3) := by decide +kernel
theorem dX11_notes_61 : decode cX11_notes 61 = .ok (.bipush 29, 2) := by decide +kernel
theorem dX11_notes_63 : decode cX11_notes 63 = .ok (.aload_n 0, 1) := by decide +kernel
theorem dX11_notes_64 : decode cX11_notes 64 = .ok (.getfield 165, 3) := by decide +kernel
theorem dX11_notes_67 : decode cX11_notes 67 = .ok (.imul, 1) := by decide +kernel
theorem dX11_notes_68 : decode cX11_notes 68 = .ok (.iload_n 1, 1) := by decide +kernel
theorem dX11_notes_69 : decode cX11_notes 69 = .ok (.iadd, 1) := by decide +kernel
theorem dX11_notes_70 : decode cX11_notes 70 = .ok (.aload_n 0, 1) := by decide +kernel
theorem dX11_notes_71 : decode cX11_notes 71 = .ok (.getfield 20, 3) := by decide +kernel
theorem dX11_notes_74 : decode cX11_notes 74 = .ok (.iload_n 1, 1) := by decide +kernel
theorem dX11_notes_75 : decode cX11_notes 75 = .ok (.iaload, 1) := by decide +kernel
theorem dX11_notes_76 : decode cX11_notes 76 = .ok (.iastore, 1) := by decide +kernel
theorem dX11_notes_77 : decode cX11_notes 77 = .ok (.iinc 1 1, 3) := by decide +kernel
theorem dX11_notes_80 : decode cX11_notes 80 = .ok (.goto (-29), 3) := by decide +kernel
theorem dX11_notes_83 : decode cX11_notes 83 = .ok (.aload_n 0, 1) := by decide +kernel
theorem dX11_notes_84 : decode cX11_notes 84 = .ok (.dup, 1) := by decide +kernel
theorem dX11_notes_85 : decode cX11_notes 85 = .ok (.getfield 165, 3) := by decide +kernel
theorem dX11_notes_88 : decode cX11_notes 88 = .ok (.iconst 1, 1) := by decide +kernel
theorem dX11_notes_89 : decode cX11_notes 89 = .ok (.iadd, 1) := by decide +kernel
theorem dX11_notes_90 : decode cX11_notes 90 = .ok (.putfield 165, 3) := by decide +kernel
theorem dX11_notes_93 : decode cX11_notes 93 = .ok (.return_, 1) := by decide +kernel
theorem dX11_puts_0 : decode cX11_puts 0 = .ok (.aload_n 0, 1) := by decide +kernel
theorem dX11_puts_1 : decode cX11_puts 1 = .ok (.iconst 0, 1) := by decide +kernel
theorem dX11_puts_2 : decode cX11_puts 2 = .ok (.putfield 104, 3) := by decide +kernel
theorem dX11_puts_5 : decode cX11_puts 5 = .ok (.iload_n 2, 1) := by decide +kernel
theorem dX11_puts_6 : decode cX11_puts 6 = .ok (.iconst 0, 1) := by decide +kernel
theorem dX11_puts_7 : decode cX11_puts 7 = .ok (.iconst 2, 1) := by decide +kernel
theorem dX11_puts_8 : decode cX11_puts 8 = .ok (.invokestatic 122, 3) := by decide +kernel
theorem dX11_puts_11 : decode cX11_puts 11 = .ok (.ifCond .eq 61, 3) := by decide +kernel
theorem dX11_puts_14 : decode cX11_puts 14 = .ok (.iload_n 3, 1) := by decide +kernel
theorem dX11_puts_15 : decode cX11_puts 15 = .ok (.iconst 0, 1) := by decide +kernel
theorem dX11_puts_16 : decode cX11_puts 16 = .ok (.iload_n 2, 1) := by decide +kernel
theorem dX11_puts_17 : decode cX11_puts 17 = .ok (.ifCond .le 7, 3) := by decide +kernel
theorem dX11_puts_20 : decode cX11_puts 20 = .ok (.iconst 3, 1) := by decide +kernel
theorem dX11_puts_21 : decode cX11_puts 21 = .ok (.goto 4, 3) := by decide +kernel
theorem dX11_puts_24 : decode cX11_puts 24 = .ok (.iconst 0, 1) := by decide +kernel
theorem dX11_puts_25 : decode cX11_puts 25 = .ok (.invokestatic 122, 3) := by decide +kernel
theorem dX11_puts_28 : decode cX11_puts 28 = .ok (.ifCond .eq 44, 3) := by decide +kernel
theorem dX11_puts_31 : decode cX11_puts 31 = .ok (.iload 4, 2) := by decide +kernel
theorem dX11_puts_33 : decode cX11_puts 33 = .ok (.iconst 0, 1) := by decide +kernel
theorem dX11_puts_34 : decode cX11_puts 34 = .ok (.iload_n 2, 1) := by decide +kernel
theorem dX11_puts_35 : decode cX11_puts 35 = .ok (.ifCond .le 7, 3) := by decide +kernel
theorem dX11_puts_38 : decode cX11_puts 38 = .ok (.iconst 3, 1) := by decide +kernel
theorem dX11_puts_39 : decode cX11_puts 39 = .ok (.goto 4, 3) := by decide +kernel
theorem dX11_puts_42 : decode cX11_puts 42 = .ok (.iconst 0, 1) := by decide +kernel
theorem dX11_puts_43 : decode cX11_puts 43 = .ok (.invokestatic 122, 3) := by decide +kernel
theorem dX11_puts_46 : decode cX11_puts 46 = .ok (.ifCond .eq 26, 3) := by decide +kernel
theorem dX11_puts_49 : decode cX11_puts 49 = .ok (.iload 5, 2) := by decide +kernel
theorem dX11_puts_51 : decode cX11_puts 51 = .ok (.iconst 0, 1) := by decide +kernel
theorem dX11_puts_52 : decode cX11_puts 52 = .ok (.iload_n 2, 1) := by decide +kernel
theorem dX11_puts_53 : decode cX11_puts 53 = .ok (.iconst 1, 1) := by decide +kernel
theorem dX11_puts_54 : decode cX11_puts 54 = .ok (.if_icmp .le 7, 3) := by decide +kernel
theorem dX11_puts_57 : decode cX11_puts 57 = .ok (.iconst 3, 1) := by decide +kernel
theorem dX11_puts_58 : decode cX11_puts 58 = .ok (.goto 4, 3) := by decide +kernel
theorem dX11_puts_61 : decode cX11_puts 61 = .ok (.iconst 0, 1) := by decide +kernel
theorem dX11_puts_62 : decode cX11_puts 62 = .ok (.invokestatic 122, 3) := by decide +kernel
theorem dX11_puts_65 : decode cX11_puts 65 = .ok (.ifCond .eq 7, 3) := by decide +kernel
theorem dX11_puts_68 : decode cX11_puts 68 = .ok (.iconst 1, 1) := by decide +kernel
theorem dX11_puts_69 : decode cX11_puts 69 = .ok (.goto 4, 3) := by decide +kernel
theorem dX11_puts_72 : decode cX11_puts 72 = .ok (.iconst 0, 1) := by decide +kernel
theorem dX11_puts_73 : decode cX11_puts 73 = .ok (.istore 6, 2) := by decide +kernel
theorem dX11_puts_75 : decode cX11_puts 75 = .ok (.iload_n 1, 1) := by decide +kernel
theorem dX11_puts_76 : decode cX11_puts 76 = .ok (.iconst 0, 1) := by decide +kernel
theorem dX11_puts_77 : decode cX11_puts 77 = .ok (.aload_n 0, 1) := by decide +kernel
theorem dX11_puts_78 : decode cX11_puts 78 = .ok (.getfield 20, 3) := by decide +kernel
theorem dX11_puts_81 : decode cX11_puts 81 = .ok (.iconst 0, 1) := by decide +kernel
theorem dX11_puts_82 : decode cX11_puts 82 = .ok (.iaload, 1) := by decide +kernel
theorem dX11_puts_83 : decode cX11_puts 83 = .ok (.invokestatic 122, 3) := by decide +kernel
theorem dX11_puts_86 : decode cX11_puts 86 = .ok (.ifCond .eq 8, 3) := by decide +kernel
theorem dX11_puts_89 : decode cX11_puts 89 = .ok (.iload 6, 2) := by decide +kernel
theorem dX11_puts_91 : decode cX11_puts 91 = .ok (.ifCond .ne 5, 3) := by decide +kernel
theorem dX11_puts_94 : decode cX11_puts 94 = .ok (.iconst (-1), 1) := by decide +kernel
theorem dX11_puts_95 : decode cX11_puts 95 = .ok (.ireturn, 1) := by decide +kernel
theorem dX11_puts_96 : decode cX11_puts 96 = .ok (.iload_n 1, 1) := by decide +kernel
theorem dX11_puts_97 : decode cX11_puts 97 = .ok (.aload_n 0, 1) := by decide +kernel
theorem dX11_puts_98 : decode cX11_puts 98 = .ok (.getfield 20, 3) := by decide +kernel
theorem dX11_puts_101 : decode cX11_puts 101 = .ok (.iconst 0, 1) := by decide +kernel
theorem dX11_puts_102 : decode cX11_puts 102 = .ok (.iaload, 1) := by decide +kernel
theorem dX11_puts_103 : decode cX11_puts 103 = .ok (.if_icmp .ge 48, 3) := by decide +kernel
theorem dX11_puts_106 : decode cX11_puts 106 = .ok (.aload_n 0, 1) := by decide +kernel
theorem dX11_puts_107 : decode cX11_puts 107 = .ok (.iload_n 1, 1) := by decide +kernel
theorem dX11_puts_108 : decode cX11_puts 108 = .ok (.iconst 0, 1) := by decide +kernel
theorem dX11_puts_109 : decode cX11_puts 109 = .ok (.invokevirtual 189, 3) := by decide +kernel
theorem dX11_puts_112 : decode cX11_puts 112 = .ok (.iload_n 2, 1) := by decide +kernel
theorem dX11_puts_113 : decode cX11_puts 113 = .ok (.if_icmp .ne 38, 3) := by decide +kernel
theorem dX11_puts_116 : decode cX11_puts 116 = .ok (.aload_n 0, 1) := by decide +kernel
theorem dX11_puts_117 : decode cX11_puts 117 = .ok (.iload_n 1, 1) := by decide +kernel
theorem dX11_puts_118 : decode cX11_puts 118 = .ok (.iconst 1, 1) := by decide +kernel
theorem dX11_puts_119 : decode cX11_puts 119 = .ok (.invokevirtual 189, 3) := by decide +kernel
theorem dX11_puts_122 : decode cX11_puts 122 = .ok (.iload_n 3, 1) := by decide +kernel
theorem dX11_puts_123 : decode cX11_puts 123 = .ok (.if_icmp .ne 28, 3) := by decide +kernel
theorem dX11_puts_126 : decode cX11_puts 126 = .ok (.aload_n 0, 1) := by decide +kernel
theorem dX11_puts_127 : decode cX11_puts 127 = .ok (.iload_n 1, 1) := by decide +kernel
theorem dX11_puts_128 : decode cX11_puts 128 = .ok (.iconst 2, 1) := by decide +kernel
theorem dX11_puts_129 : decode cX11_puts 129 = .ok (.invokevirtual 189, 3) := by decide +kernel
theorem dX11_puts_132 : decode cX11_puts 132 = .ok (.iload 4, 2) := by decide +kernel
theorem dX11_puts_134 : decode cX11_puts 134 = .ok (.if_icmp .ne 17, 3) := by decide +kernel
theorem dX11_puts_137 : decode cX11_puts 137 = .ok (.aload_n 0, 1) := by decide +kernel
theorem dX11_puts_138 : decode cX11_puts 138 = .ok (.iload_n 1, 1) := by decide +kernel
theorem dX11_puts_139 : decode cX11_puts 139 = .ok (.iconst 3, 1) := by decide +kernel
theorem dX11_puts_140 : decode cX11_puts 140 = .ok (.invokevirtual 189, 3) := by decide +kernel
theorem dX11_puts_143 : decode cX11_puts 143 = .ok (.iload 5, 2) := by decide +kernel
theorem dX11_puts_145 : decode cX11_puts 145 = .ok (.if_icmp .ne 6, 3) := by decide +kernel
theorem dX11_puts_148 : decode cX11_puts 148 = .ok (.bipush (-2), 2) := by decide +kernel
theorem dX11_puts_150 : decode cX11_puts 150 = .ok (.ireturn, 1) := by decide +kernel
theorem dX11_puts_151 : decode cX11_puts 151 = .ok (.iload_n 1, 1) := by decide +kernel
theorem dX11_puts_152 : decode cX11_puts 152 = .ok (.bipush 6, 2) := by decide +kernel
theorem dX11_puts_154 : decode cX11_puts 154 = .ok (.if_icmp .ne 6, 3) := by decide +kernel
theorem dX11_puts_157 : decode cX11_puts 157 = .ok (.bipush (-3), 2) := by decide +kernel
theorem dX11_puts_159 : decode cX11_puts 159 = .ok (.ireturn, 1) := by decide +kernel
theorem dX11_puts_160 : decode cX11_puts 160 = .ok (.aload_n 0, 1) := by decide +kernel
theorem dX11_puts_161 : decode cX11_puts 161 = .ok (.invokevirtual 254, 3) := by decide +kernel
theorem dX11_puts_164 : decode cX11_puts 164 = .ok (.aload_n 0, 1) := by decide +kernel
theorem dX11_puts_165 : decode cX11_puts 165 = .ok (.getfield 20, 3) := by decide +kernel
theorem dX11_puts_168 : decode cX11_puts 168 = .ok (.iconst 0, 1) := by decide +kernel
theorem dX11_puts_169 : decode cX11_puts 169 = .ok (.dup2, 1) := by decide +kernel
theorem dX11_puts_170 : decode cX11_puts 170 = .ok (.iaload, 1) := by decide +kernel
theorem dX11_puts_171 : decode cX11_puts 171 = .ok (.iload_n 1, 1) := by decide +kernel
theorem dX11_puts_172 : decode cX11_puts 172 = .ok (.aload_n 0, 1) := by decide +kernel
theorem dX11_puts_173 : decode cX11_puts 173 = .ok (.getfield 20, 3) := by decide +kernel
theorem dX11_puts_176 : decode cX11_puts 176 = .ok (.iconst 0, 1) := by decide +kernel
theorem dX11_puts_177 : decode cX11_puts 177 = .ok (.iaload, 1) := by decide +kernel
theorem dX11_puts_178 : decode cX11_puts 178 = .ok (.if_icmp .ne 7, 3) := by decide +kernel
theorem dX11_puts_181 : decode cX11_puts 181 = .ok (.iconst 1, 1) := by decide +kernel
theorem dX11_puts_182 : decode cX11_puts 182 = .ok (.goto 4, 3) := by decide +kernel
theorem dX11_puts_185 : decode cX11_puts 185 = .ok (.iconst 0, 1) := by decide +kernel
theorem dX11_puts_186 : decode cX11_puts 186 = .ok (.iadd, 1) := by decide +kernel
theorem dX11_puts_187 : decode cX11_puts 187 = .ok (.iastore, 1) := by decide +kernel
theorem dX11_puts_188 : decode cX11_puts 188 = .ok (.aload_n 0, 1) := by decide +kernel
theorem dX11_puts_189 : decode cX11_puts 189 = .ok (.getfield 20, 3) := by decide +kernel
theorem dX11_puts_192 : decode cX11_puts 192 = .ok (.iconst 1, 1) := by decide +kernel
theorem dX11_puts_193 : decode cX11_puts 193 = .ok (.iconst 4, 1) := by decide +kernel
theorem dX11_puts_194 : decode cX11_puts 194 = .ok (.iload_n 1, 1) := by decide +kernel
theorem dX11_puts_195 : decode cX11_puts 195 = .ok (.imul, 1) := by decide +kernel
theorem dX11_puts_196 : decode cX11_puts 196 = .ok (.iadd, 1) := by decide +kernel
theorem dX11_puts_197 : decode cX11_puts 197 = .ok (.iload_n 2, 1) := by decide +kernel
theorem dX11_puts_198 : decode cX11_puts 198 = .ok (.iastore, 1) := by decide +kernel
theorem dX11_puts_199 : decode cX11_puts 199 = .ok (.aload_n 0, 1) := by decide +kernel
theorem dX11_puts_200 : decode cX11_puts 200 = .ok (.getfield 20, 3) := by decide +kernel
theorem dX11_puts_203 : decode cX11_puts 203 = .ok (.iconst 1, 1) := by decide +kernel
theorem dX11_puts_204 : decode cX11_puts 204 = .ok (.iconst 4, 1) := by decide +kernel
theorem dX11_puts_205 : decode cX11_puts 205 = .ok (.iload_n 1, 1) := by decide +kernel
theorem dX11_puts_206 : decode cX11_puts 206 = .ok (.imul, 1) := by decide +kernel
theorem dX11_puts_207 : decode cX11_puts 207 = .ok (.iadd, 1) := by decide +kernel
theorem dX11_puts_208 : decode cX11_puts 208 = .ok (.iconst 1, 1) := by decide +kernel
theorem dX11_puts_209 : decode cX11_puts 209 = .ok (.iadd, 1) := by decide +kernel
theorem dX11_puts_210 : decode cX11_puts 210 = .ok (.iload_n 3, 1) := by decide +kernel
theorem dX11_puts_211 : decode cX11_puts 211 = .ok (.iastore, 1) := by decide +kernel
theorem dX11_puts_212 : decode cX11_puts 212 = .ok (.aload_n 0, 1) := by decide +kernel
theorem dX11_puts_213 : decode cX11_puts 213 = .ok (.getfield 20, 3) := by decide +kernel
theorem dX11_puts_216 : decode cX11_puts 216 = .ok (.iconst 1, 1) := by decide +kernel
theorem dX11_puts_217 : decode cX11_puts 217 = .ok (.iconst 4, 1) := by decide +kernel
theorem dX11_puts_218 : decode cX11_puts 218 = .ok (.iload_n 1, 1) := by decide +kernel
theorem dX11_puts_219 : decode cX11_puts 219 = .ok (.imul, 1) := by decide +kernel
theorem dX11_puts_220 : decode cX11_puts 220 = .ok (.iadd, 1) := by decide +kernel
theorem dX11_puts_221 : decode cX11_puts 221 = .ok (.iconst 2, 1) := by decide +kernel
theorem dX11_puts_222 : decode cX11_puts 222 = .ok (.iadd, 1) := by decide +kernel
theorem dX11_puts_223 : decode cX11_puts 223 = .ok (.iload 4, 2) := by decide +kernel
theorem dX11_puts_225 : decode cX11_puts 225 = .ok (.iastore, 1) := by decide +kernel
theorem dX11_puts_226 : decode cX11_puts 226 = .ok (.aload_n 0, 1) := by decide +kernel
theorem dX11_puts_227 : decode cX11_puts 227 = .ok (.getfield 20, 3) := by decide +kernel
theorem dX11_puts_230 : decode cX11_puts 230 = .ok (.iconst 1, 1) := by decide +kernel
theorem dX11_puts_231 : decode cX11_puts 231 = .ok (.iconst 4, 1) := by decide +kernel
theorem dX11_puts_232 : decode cX11_puts 232 = .ok (.iload_n 1, 1) := by decide +kernel
theorem dX11_puts_233 : decode cX11_puts 233 = .ok (.imul, 1) := by decide +kernel
theorem dX11_puts_234 : decode cX11_puts 234 = .ok (.iadd, 1) := by decide +kernel
theorem dX11_puts_235 : decode cX11_puts 235 = .ok (.iconst 3, 1) := by decide +kernel
theorem dX11_puts_236 : decode cX11_puts 236 = .ok (.iadd, 1) := by decide +kernel
theorem dX11_puts_237 : decode cX11_puts 237 = .ok (.iload 5, 2) := by decide +kernel
theorem dX11_puts_239 : decode cX11_puts 239 = .ok (.iastore, 1) := by decide +kernel
theorem dX11_puts_240 : decode cX11_puts 240 = .ok (.aload_n 0, 1) := by decide +kernel
theorem dX11_puts_241 : decode cX11_puts 241 = .ok (.getfield 20, 3) := by decide +kernel
theorem dX11_puts_244 : decode cX11_puts 244 = .ok (.iconst 0, 1) := by decide +kernel
theorem dX11_puts_245 : decode cX11_puts 245 = .ok (.iaload, 1) := by decide +kernel
theorem dX11_puts_246 : decode cX11_puts 246 = .ok (.ireturn, 1) := by decide +kernel
theorem dX11_leaves_0 : decode cX11_leaves 0 = .ok (.aload_n 0, 1) := by decide +kernel
theorem dX11_leaves_1 : decode cX11_leaves 1 = .ok (.iconst 0, 1) := by decide +kernel
theorem dX11_leaves_2 : decode cX11_leaves 2 = .ok (.putfield 104, 3) := by decide +kernel
theorem dX11_leaves_5 : decode cX11_leaves 5 = .ok (.iload_n 1, 1) := by decide +kernel
theorem dX11_leaves_6 : decode cX11_leaves 6 = .ok (.iconst 0, 1) := by decide +kernel
theorem dX11_leaves_7 : decode cX11_leaves 7 = .ok (.aload_n 0, 1) := by decide +kernel
theorem dX11_leaves_8 : decode cX11_leaves 8 = .ok (.getfield 162, 3) := by decide +kernel
theorem dX11_leaves_11 : decode cX11_leaves 11 = .ok (.iconst 1, 1) := by decide +kernel
theorem dX11_leaves_12 : decode cX11_leaves 12 = .ok (.isub, 1) := by decide +kernel
theorem dX11_leaves_13 : decode cX11_leaves 13 = .ok (.invokestatic 122, 3) := by decide +kernel
theorem dX11_leaves_16 : decode cX11_leaves 16 = .ok (.ifCond .ne 5, 3) := by decide +kernel
theorem dX11_leaves_19 : decode cX11_leaves 19 = .ok (.iconst (-1), 1) := by decide +kernel
theorem dX11_leaves_20 : decode cX11_leaves 20 = .ok (.ireturn, 1) := by decide +kernel
theorem dX11_leaves_21 : decode cX11_leaves 21 = .ok (.aload_n 0, 1) := by decide +kernel
theorem dX11_leaves_22 : decode cX11_leaves 22 = .ok (.invokevirtual 254, 3) := by decide +kernel
theorem dX11_leaves_25 : decode cX11_leaves 25 = .ok (.aload_n 0, 1) := by decide +kernel
theorem dX11_leaves_26 : decode cX11_leaves 26 = .ok (.getfield 20, 3) := by decide +kernel
theorem dX11_leaves_29 : decode cX11_leaves 29 = .ok (.bipush 25, 2) := by decide +kernel
theorem dX11_leaves_31 : decode cX11_leaves 31 = .ok (.dup2, 1) := by decide +kernel
theorem dX11_leaves_32 : decode cX11_leaves 32 = .ok (.iaload, 1) := by decide +kernel
theorem dX11_leaves_33 : decode cX11_leaves 33 = .ok (.iconst 1, 1) := by decide +kernel
theorem dX11_leaves_34 : decode cX11_leaves 34 = .ok (.iload_n 1, 1) := by decide +kernel
theorem dX11_leaves_35 : decode cX11_leaves 35 = .ok (.ishl, 1) := by decide +kernel
theorem dX11_leaves_36 : decode cX11_leaves 36 = .ok (.ixor, 1) := by decide +kernel
theorem dX11_leaves_37 : decode cX11_leaves 37 = .ok (.iastore, 1) := by decide +kernel
theorem dX11_leaves_38 : decode cX11_leaves 38 = .ok (.aload_n 0, 1) := by decide +kernel
theorem dX11_leaves_39 : decode cX11_leaves 39 = .ok (.getfield 20, 3) := by decide +kernel
theorem dX11_leaves_42 : decode cX11_leaves 42 = .ok (.bipush 25, 2) := by decide +kernel
theorem dX11_leaves_44 : decode cX11_leaves 44 = .ok (.iaload, 1) := by decide +kernel
theorem dX11_leaves_45 : decode cX11_leaves 45 = .ok (.iload_n 1, 1) := by decide +kernel
theorem dX11_leaves_46 : decode cX11_leaves 46 = .ok (.ishr, 1) := by decide +kernel
theorem dX11_leaves_47 : decode cX11_leaves 47 = .ok (.iconst 1, 1) := by decide +kernel
theorem dX11_leaves_48 : decode cX11_leaves 48 = .ok (.iand, 1) := by decide +kernel
theorem dX11_leaves_49 : decode cX11_leaves 49 = .ok (.ireturn, 1) := by decide +kernel
theorem dX11_tells_0 : decode cX11_tells 0 = .ok (.aload_n 0, 1) := by decide +kernel
theorem dX11_tells_1 : decode cX11_tells 1 = .ok (.iconst 0, 1) := by decide +kernel
theorem dX11_tells_2 : decode cX11_tells 2 = .ok (.putfield 104, 3) := by decide +kernel
theorem dX11_tells_5 : decode cX11_tells 5 = .ok (.iload_n 1, 1) := by decide +kernel
theorem dX11_tells_6 : decode cX11_tells 6 = .ok (.iconst 0, 1) := by decide +kernel
theorem dX11_tells_7 : decode cX11_tells 7 = .ok (.iconst 3, 1) := by decide +kernel
theorem dX11_tells_8 : decode cX11_tells 8 = .ok (.invokestatic 122, 3) := by decide +kernel
theorem dX11_tells_11 : decode cX11_tells 11 = .ok (.ifCond .eq 22, 3) := by decide +kernel
theorem dX11_tells_14 : decode cX11_tells 14 = .ok (.iload_n 2, 1) := by decide +kernel
theorem dX11_tells_15 : decode cX11_tells 15 = .ok (.iconst 0, 1) := by decide +kernel
theorem dX11_tells_16 : decode cX11_tells 16 = .ok (.bipush 7, 2) := by decide +kernel
theorem dX11_tells_18 : decode cX11_tells 18 = .ok (.invokestatic 122, 3) := by decide +kernel
theorem dX11_tells_21 : decode cX11_tells 21 = .ok (.ifCond .eq 12, 3) := by decide +kernel
theorem dX11_tells_24 : decode cX11_tells 24 = .ok (.iload_n 3, 1) := by decide +kernel
theorem dX11_tells_25 : decode cX11_tells 25 = .ok (.iconst 0, 1) := by decide +kernel
theorem dX11_tells_26 : decode cX11_tells 26 = .ok (.iconst 1, 1) := by decide +kernel
theorem dX11_tells_27 : decode cX11_tells 27 = .ok (.invokestatic 122, 3) := by decide +kernel
theorem dX11_tells_30 : decode cX11_tells 30 = .ok (.ifCond .ne 5, 3) := by decide +kernel
theorem dX11_tells_33 : decode cX11_tells 33 = .ok (.iconst (-1), 1) := by decide +kernel
theorem dX11_tells_34 : decode cX11_tells 34 = .ok (.ireturn, 1) := by decide +kernel
theorem dX11_tells_35 : decode cX11_tells 35 = .ok (.aload_n 0, 1) := by decide +kernel
theorem dX11_tells_36 : decode cX11_tells 36 = .ok (.getfield 20, 3) := by decide +kernel
theorem dX11_tells_39 : decode cX11_tells 39 = .ok (.bipush 26, 2) := by decide +kernel
theorem dX11_tells_41 : decode cX11_tells 41 = .ok (.iaload, 1) := by decide +kernel
theorem dX11_tells_42 : decode cX11_tells 42 = .ok (.iload_n 1, 1) := by decide +kernel
theorem dX11_tells_43 : decode cX11_tells 43 = .ok (.if_icmp .ne 28, 3) := by decide +kernel
theorem dX11_tells_46 : decode cX11_tells 46 = .ok (.aload_n 0, 1) := by decide +kernel
theorem dX11_tells_47 : decode cX11_tells 47 = .ok (.getfield 20, 3) := by decide +kernel
theorem dX11_tells_50 : decode cX11_tells 50 = .ok (.bipush 27, 2) := by decide +kernel
theorem dX11_tells_52 : decode cX11_tells 52 = .ok (.iaload, 1) := by decide +kernel
theorem dX11_tells_53 : decode cX11_tells 53 = .ok (.iload_n 2, 1) := by decide +kernel
theorem dX11_tells_54 : decode cX11_tells 54 = .ok (.if_icmp .ne 17, 3) := by decide +kernel
theorem dX11_tells_57 : decode cX11_tells 57 = .ok (.aload_n 0, 1) := by decide +kernel
theorem dX11_tells_58 : decode cX11_tells 58 = .ok (.getfield 20, 3) := by decide +kernel
theorem dX11_tells_61 : decode cX11_tells 61 = .ok (.bipush 28, 2) := by decide +kernel
theorem dX11_tells_63 : decode cX11_tells 63 = .ok (.iaload, 1) := by decide +kernel
theorem dX11_tells_64 : decode cX11_tells 64 = .ok (.iload_n 3, 1) := by decide +kernel
theorem dX11_tells_65 : decode cX11_tells 65 = .ok (.if_icmp .ne 6, 3) := by decide +kernel
theorem dX11_tells_68 : decode cX11_tells 68 = .ok (.bipush (-2), 2) := by decide +kernel
theorem dX11_tells_70 : decode cX11_tells 70 = .ok (.ireturn, 1) := by decide +kernel
theorem dX11_tells_71 : decode cX11_tells 71 = .ok (.aload_n 0, 1) := by decide +kernel
theorem dX11_tells_72 : decode cX11_tells 72 = .ok (.invokevirtual 254, 3) := by decide +kernel
theorem dX11_tells_75 : decode cX11_tells 75 = .ok (.aload_n 0, 1) := by decide +kernel
theorem dX11_tells_76 : decode cX11_tells 76 = .ok (.getfield 20, 3) := by decide +kernel
theorem dX11_tells_79 : decode cX11_tells 79 = .ok (.bipush 26, 2) := by decide +kernel
theorem dX11_tells_81 : decode cX11_tells 81 = .ok (.iload_n 1, 1) := by decide +kernel
theorem dX11_tells_82 : decode cX11_tells 82 = .ok (.iastore, 1) := by decide +kernel
theorem dX11_tells_83 : decode cX11_tells 83 = .ok (.aload_n 0, 1) := by decide +kernel
theorem dX11_tells_84 : decode cX11_tells 84 = .ok (.getfield 20, 3) := by decide +kernel
theorem dX11_tells_87 : decode cX11_tells 87 = .ok (.bipush 27, 2) := by decide +kernel
theorem dX11_tells_89 : decode cX11_tells 89 = .ok (.iload_n 2, 1) := by decide +kernel
theorem dX11_tells_90 : decode cX11_tells 90 = .ok (.iastore, 1) := by decide +kernel
theorem dX11_tells_91 : decode cX11_tells 91 = .ok (.aload_n 0, 1) := by decide +kernel
theorem dX11_tells_92 : decode cX11_tells 92 = .ok (.getfield 20, 3) := by decide +kernel
theorem dX11_tells_95 : decode cX11_tells 95 = .ok (.bipush 28, 2) := by decide +kernel
theorem dX11_tells_97 : decode cX11_tells 97 = .ok (.iload_n 3, 1) := by decide +kernel
theorem dX11_tells_98 : decode cX11_tells 98 = .ok (.iastore, 1) := by decide +kernel
theorem dX11_tells_99 : decode cX11_tells 99 = .ok (.iconst 1, 1) := by decide +kernel
theorem dX11_tells_100 : decode cX11_tells 100 = .ok (.ireturn, 1) := by decide +kernel
theorem dX11_undo_0 : decode cX11_undo 0 = .ok (.aload_n 0, 1) := by decide +kernel
theorem dX11_undo_1 : decode cX11_undo 1 = .ok (.iconst 0, 1) := by decide +kernel
theorem dX11_undo_2 : decode cX11_undo 2 = .ok (.putfield 104, 3) := by decide +kernel
theorem dX11_undo_5 : decode cX11_undo 5 = .ok (.aload_n 0, 1) := by decide +kernel
theorem dX11_undo_6 : decode cX11_undo 6 = .ok (.getfield 165, 3) := by decide +kernel
theorem dX11_undo_9 : decode cX11_undo 9 = .ok (.ifCond .ne 6, 3) := by decide +kernel
theorem dX11_undo_12 : decode cX11_undo 12 = .ok (.bipush (-2), 2) := by decide +kernel
theorem dX11_undo_14 : decode cX11_undo 14 = .ok (.ireturn, 1) := by decide +kernel
theorem dX11_undo_15 : decode cX11_undo 15 = .ok (.aload_n 0, 1) := by decide +kernel
theorem dX11_undo_16 : decode cX11_undo 16 = .ok (.dup, 1) := by decide +kernel
theorem dX11_undo_17 : decode cX11_undo 17 = .ok (.getfield 165, 3) := by decide +kernel
theorem dX11_undo_20 : decode cX11_undo 20 = .ok (.iconst 1, 1) := by decide +kernel
theorem dX11_undo_21 : decode cX11_undo 21 = .ok (.isub, 1) := by decide +kernel
theorem dX11_undo_22 : decode cX11_undo 22 = .ok (.putfield 165, 3) := by decide +kernel
theorem dX11_undo_25 : decode cX11_undo 25 = .ok (.iconst 0, 1) := by decide +kernel
theorem dX11_undo_26 : decode cX11_undo 26 = .ok (.istore_n 1, 1) := by decide +kernel
theorem dX11_undo_27 : decode cX11_undo 27 = .ok (.iload_n 1, 1) := by decide +kernel
theorem dX11_undo_28 : decode cX11_undo 28 = .ok (.bipush 29, 2) := by decide +kernel
theorem dX11_undo_30 : decode cX11_undo 30 = .ok (.if_icmp .ge 29, 3) := by decide +kernel
theorem dX11_undo_33 : decode cX11_undo 33 = .ok (.aload_n 0, 1) := by decide +kernel
theorem dX11_undo_34 : decode cX11_undo 34 = .ok (.getfield 20, 3) := by decide +kernel
theorem dX11_undo_37 : decode cX11_undo 37 = .ok (.iload_n 1, 1) := by decide +kernel
theorem dX11_undo_38 : decode cX11_undo 38 = .ok (.aload_n 0, 1) := by decide +kernel
theorem dX11_undo_39 : decode cX11_undo 39 = .ok (.getfield 23, 3) := by decide +kernel
theorem dX11_undo_42 : decode cX11_undo 42 = .ok (.bipush 29, 2) := by decide +kernel
theorem dX11_undo_44 : decode cX11_undo 44 = .ok (.aload_n 0, 1) := by decide +kernel
theorem dX11_undo_45 : decode cX11_undo 45 = .ok (.getfield 165, 3) := by decide +kernel
theorem dX11_undo_48 : decode cX11_undo 48 = .ok (.imul, 1) := by decide +kernel
theorem dX11_undo_49 : decode cX11_undo 49 = .ok (.iload_n 1, 1) := by decide +kernel
theorem dX11_undo_50 : decode cX11_undo 50 = .ok (.iadd, 1) := by decide +kernel
theorem dX11_undo_51 : decode cX11_undo 51 = .ok (.iaload, 1) := by decide +kernel
theorem dX11_undo_52 : decode cX11_undo 52 = .ok (.iastore, 1) := by decide +kernel
theorem dX11_undo_53 : decode cX11_undo 53 = .ok (.iinc 1 1, 3) := by decide +kernel
theorem dX11_undo_56 : decode cX11_undo 56 = .ok (.goto (-29), 3) := by decide +kernel
theorem dX11_undo_59 : decode cX11_undo 59 = .ok (.aload_n 0, 1) := by decide +kernel
theorem dX11_undo_60 : decode cX11_undo 60 = .ok (.getfield 165, 3) := by decide +kernel
theorem dX11_undo_63 : decode cX11_undo 63 = .ok (.ireturn, 1) := by decide +kernel
theorem dX11_sees_0 : decode cX11_sees 0 = .ok (.aload_n 0, 1) := by decide +kernel
theorem dX11_sees_1 : decode cX11_sees 1 = .ok (.iconst 0, 1) := by decide +kernel
theorem dX11_sees_2 : decode cX11_sees 2 = .ok (.putfield 104, 3) := by decide +kernel
theorem dX11_sees_5 : decode cX11_sees 5 = .ok (.iload_n 1, 1) := by decide +kernel
theorem dX11_sees_6 : decode cX11_sees 6 = .ok (.iconst 0, 1) := by decide +kernel
theorem dX11_sees_7 : decode cX11_sees 7 = .ok (.bipush 15, 2) := by decide +kernel
theorem dX11_sees_9 : decode cX11_sees 9 = .ok (.invokestatic 122, 3) := by decide +kernel
theorem dX11_sees_12 : decode cX11_sees 12 = .ok (.ifCond .ne 5, 3) := by decide +kernel
theorem dX11_sees_15 : decode cX11_sees 15 = .ok (.iconst (-1), 1) := by decide +kernel
theorem dX11_sees_16 : decode cX11_sees 16 = .ok (.ireturn, 1) := by decide +kernel
theorem dX11_sees_17 : decode cX11_sees 17 = .ok (.aload_n 0, 1) := by decide +kernel
theorem dX11_sees_18 : decode cX11_sees 18 = .ok (.getfield 168, 3) := by decide +kernel
theorem dX11_sees_21 : decode cX11_sees 21 = .ok (.iconst 4, 1) := by decide +kernel
theorem dX11_sees_22 : decode cX11_sees 22 = .ok (.if_icmp .ne 6, 3) := by decide +kernel
theorem dX11_sees_25 : decode cX11_sees 25 = .ok (.bipush (-3), 2) := by decide +kernel
theorem dX11_sees_27 : decode cX11_sees 27 = .ok (.ireturn, 1) := by decide +kernel
theorem dX11_sees_28 : decode cX11_sees 28 = .ok (.aload_n 0, 1) := by decide +kernel
theorem dX11_sees_29 : decode cX11_sees 29 = .ok (.getfield 32, 3) := by decide +kernel
theorem dX11_sees_32 : decode cX11_sees 32 = .ok (.aload_n 0, 1) := by decide +kernel
theorem dX11_sees_33 : decode cX11_sees 33 = .ok (.getfield 168, 3) := by decide +kernel
theorem dX11_sees_36 : decode cX11_sees 36 = .ok (.iload_n 1, 1) := by decide +kernel
theorem dX11_sees_37 : decode cX11_sees 37 = .ok (.iastore, 1) := by decide +kernel
theorem dX11_sees_38 : decode cX11_sees 38 = .ok (.iconst 0, 1) := by decide +kernel
theorem dX11_sees_39 : decode cX11_sees 39 = .ok (.istore_n 2, 1) := by decide +kernel
theorem dX11_sees_40 : decode cX11_sees 40 = .ok (.iload_n 2, 1) := by decide +kernel
theorem dX11_sees_41 : decode cX11_sees 41 = .ok (.bipush 29, 2) := by decide +kernel
theorem dX11_sees_43 : decode cX11_sees 43 = .ok (.if_icmp .ge 29, 3) := by decide +kernel
theorem dX11_sees_46 : decode cX11_sees 46 = .ok (.aload_n 0, 1) := by decide +kernel
theorem dX11_sees_47 : decode cX11_sees 47 = .ok (.getfield 35, 3) := by decide +kernel
theorem dX11_sees_50 : decode cX11_sees 50 = .ok (.bipush 29, 2) := by decide +kernel
theorem dX11_sees_52 : decode cX11_sees 52 = .ok (.aload_n 0, 1) := by decide +kernel
theorem dX11_sees_53 : decode cX11_sees 53 = .ok (.getfield 168, 3) := by decide +kernel
theorem dX11_sees_56 : decode cX11_sees 56 = .ok (.imul, 1) := by decide +kernel
theorem dX11_sees_57 : decode cX11_sees 57 = .ok (.iload_n 2, 1) := by decide +kernel
theorem dX11_sees_58 : decode cX11_sees 58 = .ok (.iadd, 1) := by decide +kernel
theorem dX11_sees_59 : decode cX11_sees 59 = .ok (.aload_n 0, 1) := by decide +kernel
theorem dX11_sees_60 : decode cX11_sees 60 = .ok (.getfield 20, 3) := by decide +kernel
theorem dX11_sees_63 : decode cX11_sees 63 = .ok (.iload_n 2, 1) := by decide +kernel
theorem dX11_sees_64 : decode cX11_sees 64 = .ok (.iaload, 1) := by decide +kernel
theorem dX11_sees_65 : decode cX11_sees 65 = .ok (.iastore, 1) := by decide +kernel
theorem dX11_sees_66 : decode cX11_sees 66 = .ok (.iinc 2 1, 3) := by decide +kernel
theorem dX11_sees_69 : decode cX11_sees 69 = .ok (.goto (-29), 3) := by decide +kernel
theorem dX11_sees_72 : decode cX11_sees 72 = .ok (.aload_n 0, 1) := by decide +kernel
theorem dX11_sees_73 : decode cX11_sees 73 = .ok (.dup, 1) := by decide +kernel
theorem dX11_sees_74 : decode cX11_sees 74 = .ok (.getfield 168, 3) := by decide +kernel
theorem dX11_sees_77 : decode cX11_sees 77 = .ok (.iconst 1, 1) := by decide +kernel
theorem dX11_sees_78 : decode cX11_sees 78 = .ok (.iadd, 1) := by decide +kernel
theorem dX11_sees_79 : decode cX11_sees 79 = .ok (.putfield 168, 3) := by decide +kernel
theorem dX11_sees_82 : decode cX11_sees 82 = .ok (.aload_n 0, 1) := by decide +kernel
theorem dX11_sees_83 : decode cX11_sees 83 = .ok (.getfield 168, 3) := by decide +kernel
theorem dX11_sees_86 : decode cX11_sees 86 = .ok (.ireturn, 1) := by decide +kernel
theorem dX11_forget_0 : decode cX11_forget 0 = .ok (.aload_n 0, 1) := by decide +kernel
theorem dX11_forget_1 : decode cX11_forget 1 = .ok (.iconst 0, 1) := by decide +kernel
theorem dX11_forget_2 : decode cX11_forget 2 = .ok (.putfield 104, 3) := by decide +kernel
theorem dX11_forget_5 : decode cX11_forget 5 = .ok (.aload_n 0, 1) := by decide +kernel
theorem dX11_forget_6 : decode cX11_forget 6 = .ok (.getfield 168, 3) := by decide +kernel
theorem dX11_forget_9 : decode cX11_forget 9 = .ok (.istore_n 1, 1) := by decide +kernel
theorem dX11_forget_10 : decode cX11_forget 10 = .ok (.aload_n 0, 1) := by decide +kernel
theorem dX11_forget_11 : decode cX11_forget 11 = .ok (.iconst 0, 1) := by decide +kernel
theorem dX11_forget_12 : decode cX11_forget 12 = .ok (.putfield 168, 3) := by decide +kernel
theorem dX11_forget_15 : decode cX11_forget 15 = .ok (.iload_n 1, 1) := by decide +kernel
theorem dX11_forget_16 : decode cX11_forget 16 = .ok (.ireturn, 1) := by decide +kernel
theorem dX11_unseen_0 : decode cX11_unseen 0 = .ok (.aload_n 0, 1) := by decide +kernel
theorem dX11_unseen_1 : decode cX11_unseen 1 = .ok (.iconst 0, 1) := by decide +kernel
theorem dX11_unseen_2 : decode cX11_unseen 2 = .ok (.putfield 104, 3) := by decide +kernel
theorem dX11_unseen_5 : decode cX11_unseen 5 = .ok (.sipush 255, 3) := by decide +kernel
theorem dX11_unseen_8 : decode cX11_unseen 8 = .ok (.istore_n 1, 1) := by decide +kernel
theorem dX11_unseen_9 : decode cX11_unseen 9 = .ok (.iconst 0, 1) := by decide +kernel
theorem dX11_unseen_10 : decode cX11_unseen 10 = .ok (.istore_n 2, 1) := by decide +kernel
theorem dX11_unseen_11 : decode cX11_unseen 11 = .ok (.iload_n 2, 1) := by decide +kernel
theorem dX11_unseen_12 : decode cX11_unseen 12 = .ok (.bipush 29, 2) := by decide +kernel
theorem dX11_unseen_14 : decode cX11_unseen 14 = .ok (.if_icmp .ge 21, 3) := by decide +kernel
theorem dX11_unseen_17 : decode cX11_unseen 17 = .ok (.aload_n 0, 1) := by decide +kernel
theorem dX11_unseen_18 : decode cX11_unseen 18 = .ok (.getfield 95, 3) := by decide +kernel
theorem dX11_unseen_21 : decode cX11_unseen 21 = .ok (.iload_n 2, 1) := by decide +kernel
theorem dX11_unseen_22 : decode cX11_unseen 22 = .ok (.aload_n 0, 1) := by decide +kernel
theorem dX11_unseen_23 : decode cX11_unseen 23 = .ok (.getfield 20, 3) := by decide +kernel
theorem dX11_unseen_26 : decode cX11_unseen 26 = .ok (.iload_n 2, 1) := by decide +kernel
theorem dX11_unseen_27 : decode cX11_unseen 27 = .ok (.iaload, 1) := by decide +kernel
theorem dX11_unseen_28 : decode cX11_unseen 28 = .ok (.iastore, 1) := by decide +kernel
theorem dX11_unseen_29 : decode cX11_unseen 29 = .ok (.iinc 2 1, 3) := by decide +kernel
theorem dX11_unseen_32 : decode cX11_unseen 32 = .ok (.goto (-21), 3) := by decide +kernel
theorem dX11_unseen_35 : decode cX11_unseen 35 = .ok (.iconst 0, 1) := by decide +kernel
theorem dX11_unseen_36 : decode cX11_unseen 36 = .ok (.istore_n 2, 1) := by decide +kernel
theorem dX11_unseen_37 : decode cX11_unseen 37 = .ok (.iload_n 2, 1) := by decide +kernel
theorem dX11_unseen_38 : decode cX11_unseen 38 = .ok (.aload_n 0, 1) := by decide +kernel
end
section
theorem dX11_unseen_39 : decode cX11_unseen 39 = .ok (.getfield 168, 3) := by decide +kernel
theorem dX11_unseen_42 : decode cX11_unseen 42 = .ok (.if_icmp .ge 87, 3) := by decide +kernel
theorem dX11_unseen_45 : decode cX11_unseen 45 = .ok (.iconst 0, 1) := by decide +kernel
theorem dX11_unseen_46 : decode cX11_unseen 46 = .ok (.istore_n 3, 1) := by decide +kernel
theorem dX11_unseen_47 : decode cX11_unseen 47 = .ok (.iload_n 3, 1) := by decide +kernel
theorem dX11_unseen_48 : decode cX11_unseen 48 = .ok (.bipush 29, 2) := by decide +kernel
theorem dX11_unseen_50 : decode cX11_unseen 50 = .ok (.if_icmp .ge 26, 3) := by decide +kernel
theorem dX11_unseen_53 : decode cX11_unseen 53 = .ok (.aload_n 0, 1) := by decide +kernel
theorem dX11_unseen_54 : decode cX11_unseen 54 = .ok (.getfield 20, 3) := by decide +kernel
theorem dX11_unseen_57 : decode cX11_unseen 57 = .ok (.iload_n 3, 1) := by decide +kernel
theorem dX11_unseen_58 : decode cX11_unseen 58 = .ok (.aload_n 0, 1) := by decide +kernel
theorem dX11_unseen_59 : decode cX11_unseen 59 = .ok (.getfield 35, 3) := by decide +kernel
theorem dX11_unseen_62 : decode cX11_unseen 62 = .ok (.bipush 29, 2) := by decide +kernel
theorem dX11_unseen_64 : decode cX11_unseen 64 = .ok (.iload_n 2, 1) := by decide +kernel
theorem dX11_unseen_65 : decode cX11_unseen 65 = .ok (.imul, 1) := by decide +kernel
theorem dX11_unseen_66 : decode cX11_unseen 66 = .ok (.iload_n 3, 1) := by decide +kernel
theorem dX11_unseen_67 : decode cX11_unseen 67 = .ok (.iadd, 1) := by decide +kernel
theorem dX11_unseen_68 : decode cX11_unseen 68 = .ok (.iaload, 1) := by decide +kernel
theorem dX11_unseen_69 : decode cX11_unseen 69 = .ok (.iastore, 1) := by decide +kernel
theorem dX11_unseen_70 : decode cX11_unseen 70 = .ok (.iinc 3 1, 3) := by decide +kernel
theorem dX11_unseen_73 : decode cX11_unseen 73 = .ok (.goto (-26), 3) := by decide +kernel
theorem dX11_unseen_76 : decode cX11_unseen 76 = .ok (.iconst 0, 1) := by decide +kernel
theorem dX11_unseen_77 : decode cX11_unseen 77 = .ok (.istore_n 3, 1) := by decide +kernel
theorem dX11_unseen_78 : decode cX11_unseen 78 = .ok (.iload_n 3, 1) := by decide +kernel
theorem dX11_unseen_79 : decode cX11_unseen 79 = .ok (.bipush 8, 2) := by decide +kernel
theorem dX11_unseen_81 : decode cX11_unseen 81 = .ok (.if_icmp .ge 42, 3) := by decide +kernel
theorem dX11_unseen_84 : decode cX11_unseen 84 = .ok (.aload_n 0, 1) := by decide +kernel
theorem dX11_unseen_85 : decode cX11_unseen 85 = .ok (.iload_n 3, 1) := by decide +kernel
theorem dX11_unseen_86 : decode cX11_unseen 86 = .ok (.iconst 0, 1) := by decide +kernel
theorem dX11_unseen_87 : decode cX11_unseen 87 = .ok (.invokevirtual 220, 3) := by decide +kernel
theorem dX11_unseen_90 : decode cX11_unseen 90 = .ok (.iload_n 1, 1) := by decide +kernel
theorem dX11_unseen_91 : decode cX11_unseen 91 = .ok (.aload_n 0, 1) := by decide +kernel
theorem dX11_unseen_92 : decode cX11_unseen 92 = .ok (.invokevirtual 245, 3) := by decide +kernel
theorem dX11_unseen_95 : decode cX11_unseen 95 = .ok (.aload_n 0, 1) := by decide +kernel
theorem dX11_unseen_96 : decode cX11_unseen 96 = .ok (.getfield 32, 3) := by decide +kernel
theorem dX11_unseen_99 : decode cX11_unseen 99 = .ok (.iload_n 2, 1) := by decide +kernel
theorem dX11_unseen_100 : decode cX11_unseen 100 = .ok (.iaload, 1) := by decide +kernel
theorem dX11_unseen_101 : decode cX11_unseen 101 = .ok (.if_icmp .ne 9, 3) := by decide +kernel
theorem dX11_unseen_104 : decode cX11_unseen 104 = .ok (.sipush 255, 3) := by decide +kernel
theorem dX11_unseen_107 : decode cX11_unseen 107 = .ok (.goto 8, 3) := by decide +kernel
theorem dX11_unseen_110 : decode cX11_unseen 110 = .ok (.iconst 1, 1) := by decide +kernel
theorem dX11_unseen_111 : decode cX11_unseen 111 = .ok (.iload_n 3, 1) := by decide +kernel
theorem dX11_unseen_112 : decode cX11_unseen 112 = .ok (.ishl, 1) := by decide +kernel
theorem dX11_unseen_113 : decode cX11_unseen 113 = .ok (.iconst (-1), 1) := by decide +kernel
theorem dX11_unseen_114 : decode cX11_unseen 114 = .ok (.ixor, 1) := by decide +kernel
theorem dX11_unseen_115 : decode cX11_unseen 115 = .ok (.iand, 1) := by decide +kernel
theorem dX11_unseen_116 : decode cX11_unseen 116 = .ok (.istore_n 1, 1) := by decide +kernel
theorem dX11_unseen_117 : decode cX11_unseen 117 = .ok (.iinc 3 1, 3) := by decide +kernel
theorem dX11_unseen_120 : decode cX11_unseen 120 = .ok (.goto (-42), 3) := by decide +kernel
theorem dX11_unseen_123 : decode cX11_unseen 123 = .ok (.iinc 2 1, 3) := by decide +kernel
theorem dX11_unseen_126 : decode cX11_unseen 126 = .ok (.goto (-89), 3) := by decide +kernel
theorem dX11_unseen_129 : decode cX11_unseen 129 = .ok (.iconst 0, 1) := by decide +kernel
theorem dX11_unseen_130 : decode cX11_unseen 130 = .ok (.istore_n 2, 1) := by decide +kernel
theorem dX11_unseen_131 : decode cX11_unseen 131 = .ok (.iload_n 2, 1) := by decide +kernel
theorem dX11_unseen_132 : decode cX11_unseen 132 = .ok (.bipush 29, 2) := by decide +kernel
theorem dX11_unseen_134 : decode cX11_unseen 134 = .ok (.if_icmp .ge 21, 3) := by decide +kernel
theorem dX11_unseen_137 : decode cX11_unseen 137 = .ok (.aload_n 0, 1) := by decide +kernel
theorem dX11_unseen_138 : decode cX11_unseen 138 = .ok (.getfield 20, 3) := by decide +kernel
theorem dX11_unseen_141 : decode cX11_unseen 141 = .ok (.iload_n 2, 1) := by decide +kernel
theorem dX11_unseen_142 : decode cX11_unseen 142 = .ok (.aload_n 0, 1) := by decide +kernel
theorem dX11_unseen_143 : decode cX11_unseen 143 = .ok (.getfield 95, 3) := by decide +kernel
theorem dX11_unseen_146 : decode cX11_unseen 146 = .ok (.iload_n 2, 1) := by decide +kernel
theorem dX11_unseen_147 : decode cX11_unseen 147 = .ok (.iaload, 1) := by decide +kernel
theorem dX11_unseen_148 : decode cX11_unseen 148 = .ok (.iastore, 1) := by decide +kernel
theorem dX11_unseen_149 : decode cX11_unseen 149 = .ok (.iinc 2 1, 3) := by decide +kernel
theorem dX11_unseen_152 : decode cX11_unseen 152 = .ok (.goto (-21), 3) := by decide +kernel
theorem dX11_unseen_155 : decode cX11_unseen 155 = .ok (.iload_n 1, 1) := by decide +kernel
theorem dX11_unseen_156 : decode cX11_unseen 156 = .ok (.ireturn, 1) := by decide +kernel
theorem dX11_keep_0 : decode cX11_keep 0 = .ok (.aload_n 0, 1) := by decide +kernel
theorem dX11_keep_1 : decode cX11_keep 1 = .ok (.iconst 0, 1) := by decide +kernel
theorem dX11_keep_2 : decode cX11_keep 2 = .ok (.putfield 104, 3) := by decide +kernel
theorem dX11_keep_5 : decode cX11_keep 5 = .ok (.iload_n 1, 1) := by decide +kernel
theorem dX11_keep_6 : decode cX11_keep 6 = .ok (.iconst 0, 1) := by decide +kernel
theorem dX11_keep_7 : decode cX11_keep 7 = .ok (.iconst 1, 1) := by decide +kernel
theorem dX11_keep_8 : decode cX11_keep 8 = .ok (.invokestatic 122, 3) := by decide +kernel
theorem dX11_keep_11 : decode cX11_keep 11 = .ok (.ifCond .ne 5, 3) := by decide +kernel
theorem dX11_keep_14 : decode cX11_keep 14 = .ok (.iconst (-1), 1) := by decide +kernel
theorem dX11_keep_15 : decode cX11_keep 15 = .ok (.ireturn, 1) := by decide +kernel
theorem dX11_keep_16 : decode cX11_keep 16 = .ok (.iconst 0, 1) := by decide +kernel
theorem dX11_keep_17 : decode cX11_keep 17 = .ok (.istore_n 2, 1) := by decide +kernel
theorem dX11_keep_18 : decode cX11_keep 18 = .ok (.iload_n 2, 1) := by decide +kernel
theorem dX11_keep_19 : decode cX11_keep 19 = .ok (.bipush 29, 2) := by decide +kernel
theorem dX11_keep_21 : decode cX11_keep 21 = .ok (.if_icmp .ge 26, 3) := by decide +kernel
theorem dX11_keep_24 : decode cX11_keep 24 = .ok (.aload_n 0, 1) := by decide +kernel
theorem dX11_keep_25 : decode cX11_keep 25 = .ok (.getfield 26, 3) := by decide +kernel
theorem dX11_keep_28 : decode cX11_keep 28 = .ok (.bipush 29, 2) := by decide +kernel
theorem dX11_keep_30 : decode cX11_keep 30 = .ok (.iload_n 1, 1) := by decide +kernel
theorem dX11_keep_31 : decode cX11_keep 31 = .ok (.imul, 1) := by decide +kernel
theorem dX11_keep_32 : decode cX11_keep 32 = .ok (.iload_n 2, 1) := by decide +kernel
theorem dX11_keep_33 : decode cX11_keep 33 = .ok (.iadd, 1) := by decide +kernel
theorem dX11_keep_34 : decode cX11_keep 34 = .ok (.aload_n 0, 1) := by decide +kernel
theorem dX11_keep_35 : decode cX11_keep 35 = .ok (.getfield 20, 3) := by decide +kernel
theorem dX11_keep_38 : decode cX11_keep 38 = .ok (.iload_n 2, 1) := by decide +kernel
theorem dX11_keep_39 : decode cX11_keep 39 = .ok (.iaload, 1) := by decide +kernel
theorem dX11_keep_40 : decode cX11_keep 40 = .ok (.iastore, 1) := by decide +kernel
theorem dX11_keep_41 : decode cX11_keep 41 = .ok (.iinc 2 1, 3) := by decide +kernel
theorem dX11_keep_44 : decode cX11_keep 44 = .ok (.goto (-26), 3) := by decide +kernel
theorem dX11_keep_47 : decode cX11_keep 47 = .ok (.aload_n 0, 1) := by decide +kernel
theorem dX11_keep_48 : decode cX11_keep 48 = .ok (.getfield 29, 3) := by decide +kernel
theorem dX11_keep_51 : decode cX11_keep 51 = .ok (.iload_n 1, 1) := by decide +kernel
theorem dX11_keep_52 : decode cX11_keep 52 = .ok (.iconst 1, 1) := by decide +kernel
theorem dX11_keep_53 : decode cX11_keep 53 = .ok (.bastore, 1) := by decide +kernel
theorem dX11_keep_54 : decode cX11_keep 54 = .ok (.aload_n 0, 1) := by decide +kernel
theorem dX11_keep_55 : decode cX11_keep 55 = .ok (.getfield 20, 3) := by decide +kernel
theorem dX11_keep_58 : decode cX11_keep 58 = .ok (.iconst 0, 1) := by decide +kernel
theorem dX11_keep_59 : decode cX11_keep 59 = .ok (.iaload, 1) := by decide +kernel
theorem dX11_keep_60 : decode cX11_keep 60 = .ok (.ireturn, 1) := by decide +kernel
theorem dX11_back_0 : decode cX11_back 0 = .ok (.aload_n 0, 1) := by decide +kernel
theorem dX11_back_1 : decode cX11_back 1 = .ok (.iconst 0, 1) := by decide +kernel
theorem dX11_back_2 : decode cX11_back 2 = .ok (.putfield 104, 3) := by decide +kernel
theorem dX11_back_5 : decode cX11_back 5 = .ok (.iload_n 1, 1) := by decide +kernel
theorem dX11_back_6 : decode cX11_back 6 = .ok (.iconst 0, 1) := by decide +kernel
theorem dX11_back_7 : decode cX11_back 7 = .ok (.iconst 1, 1) := by decide +kernel
theorem dX11_back_8 : decode cX11_back 8 = .ok (.invokestatic 122, 3) := by decide +kernel
theorem dX11_back_11 : decode cX11_back 11 = .ok (.ifCond .ne 5, 3) := by decide +kernel
theorem dX11_back_14 : decode cX11_back 14 = .ok (.iconst (-1), 1) := by decide +kernel
theorem dX11_back_15 : decode cX11_back 15 = .ok (.ireturn, 1) := by decide +kernel
theorem dX11_back_16 : decode cX11_back 16 = .ok (.aload_n 0, 1) := by decide +kernel
theorem dX11_back_17 : decode cX11_back 17 = .ok (.getfield 29, 3) := by decide +kernel
theorem dX11_back_20 : decode cX11_back 20 = .ok (.iload_n 1, 1) := by decide +kernel
theorem dX11_back_21 : decode cX11_back 21 = .ok (.baload, 1) := by decide +kernel
theorem dX11_back_22 : decode cX11_back 22 = .ok (.ifCond .ne 6, 3) := by decide +kernel
theorem dX11_back_25 : decode cX11_back 25 = .ok (.bipush (-2), 2) := by decide +kernel
theorem dX11_back_27 : decode cX11_back 27 = .ok (.ireturn, 1) := by decide +kernel
theorem dX11_back_28 : decode cX11_back 28 = .ok (.iconst 0, 1) := by decide +kernel
theorem dX11_back_29 : decode cX11_back 29 = .ok (.istore_n 2, 1) := by decide +kernel
theorem dX11_back_30 : decode cX11_back 30 = .ok (.iload_n 2, 1) := by decide +kernel
theorem dX11_back_31 : decode cX11_back 31 = .ok (.bipush 29, 2) := by decide +kernel
theorem dX11_back_33 : decode cX11_back 33 = .ok (.if_icmp .ge 26, 3) := by decide +kernel
theorem dX11_back_36 : decode cX11_back 36 = .ok (.aload_n 0, 1) := by decide +kernel
theorem dX11_back_37 : decode cX11_back 37 = .ok (.getfield 20, 3) := by decide +kernel
theorem dX11_back_40 : decode cX11_back 40 = .ok (.iload_n 2, 1) := by decide +kernel
theorem dX11_back_41 : decode cX11_back 41 = .ok (.aload_n 0, 1) := by decide +kernel
theorem dX11_back_42 : decode cX11_back 42 = .ok (.getfield 26, 3) := by decide +kernel
theorem dX11_back_45 : decode cX11_back 45 = .ok (.bipush 29, 2) := by decide +kernel
theorem dX11_back_47 : decode cX11_back 47 = .ok (.iload_n 1, 1) := by decide +kernel
theorem dX11_back_48 : decode cX11_back 48 = .ok (.imul, 1) := by decide +kernel
theorem dX11_back_49 : decode cX11_back 49 = .ok (.iload_n 2, 1) := by decide +kernel
theorem dX11_back_50 : decode cX11_back 50 = .ok (.iadd, 1) := by decide +kernel
theorem dX11_back_51 : decode cX11_back 51 = .ok (.iaload, 1) := by decide +kernel
theorem dX11_back_52 : decode cX11_back 52 = .ok (.iastore, 1) := by decide +kernel
theorem dX11_back_53 : decode cX11_back 53 = .ok (.iinc 2 1, 3) := by decide +kernel
theorem dX11_back_56 : decode cX11_back 56 = .ok (.goto (-26), 3) := by decide +kernel
theorem dX11_back_59 : decode cX11_back 59 = .ok (.aload_n 0, 1) := by decide +kernel
theorem dX11_back_60 : decode cX11_back 60 = .ok (.iconst 0, 1) := by decide +kernel
theorem dX11_back_61 : decode cX11_back 61 = .ok (.putfield 165, 3) := by decide +kernel
theorem dX11_back_64 : decode cX11_back 64 = .ok (.aload_n 0, 1) := by decide +kernel
theorem dX11_back_65 : decode cX11_back 65 = .ok (.getfield 20, 3) := by decide +kernel
theorem dX11_back_68 : decode cX11_back 68 = .ok (.iconst 0, 1) := by decide +kernel
theorem dX11_back_69 : decode cX11_back 69 = .ok (.iaload, 1) := by decide +kernel
theorem dX11_back_70 : decode cX11_back 70 = .ok (.ireturn, 1) := by decide +kernel
theorem dX11_count_0 : decode cX11_count 0 = .ok (.aload_n 0, 1) := by decide +kernel
theorem dX11_count_1 : decode cX11_count 1 = .ok (.iconst 0, 1) := by decide +kernel
theorem dX11_count_2 : decode cX11_count 2 = .ok (.putfield 104, 3) := by decide +kernel
theorem dX11_count_5 : decode cX11_count 5 = .ok (.iload_n 1, 1) := by decide +kernel
theorem dX11_count_6 : decode cX11_count 6 = .ok (.tableswitch 97 0 8 #[50, 55, 63, 70, 70, 70, 82, 87, 92], 50) := by decide +kernel
theorem dX11_count_56 : decode cX11_count 56 = .ok (.aload_n 0, 1) := by decide +kernel
theorem dX11_count_57 : decode cX11_count 57 = .ok (.getfield 162, 3) := by decide +kernel
theorem dX11_count_60 : decode cX11_count 60 = .ok (.ireturn, 1) := by decide +kernel
theorem dX11_count_61 : decode cX11_count 61 = .ok (.aload_n 0, 1) := by decide +kernel
theorem dX11_count_62 : decode cX11_count 62 = .ok (.getfield 20, 3) := by decide +kernel
theorem dX11_count_65 : decode cX11_count 65 = .ok (.bipush 25, 2) := by decide +kernel
theorem dX11_count_67 : decode cX11_count 67 = .ok (.iaload, 1) := by decide +kernel
theorem dX11_count_68 : decode cX11_count 68 = .ok (.ireturn, 1) := by decide +kernel
theorem dX11_count_69 : decode cX11_count 69 = .ok (.aload_n 0, 1) := by decide +kernel
theorem dX11_count_70 : decode cX11_count 70 = .ok (.getfield 20, 3) := by decide +kernel
theorem dX11_count_73 : decode cX11_count 73 = .ok (.iconst 0, 1) := by decide +kernel
theorem dX11_count_74 : decode cX11_count 74 = .ok (.iaload, 1) := by decide +kernel
theorem dX11_count_75 : decode cX11_count 75 = .ok (.ireturn, 1) := by decide +kernel
theorem dX11_count_76 : decode cX11_count 76 = .ok (.aload_n 0, 1) := by decide +kernel
theorem dX11_count_77 : decode cX11_count 77 = .ok (.getfield 20, 3) := by decide +kernel
theorem dX11_count_80 : decode cX11_count 80 = .ok (.bipush 26, 2) := by decide +kernel
theorem dX11_count_82 : decode cX11_count 82 = .ok (.iload_n 1, 1) := by decide +kernel
theorem dX11_count_83 : decode cX11_count 83 = .ok (.iadd, 1) := by decide +kernel
theorem dX11_count_84 : decode cX11_count 84 = .ok (.iconst 3, 1) := by decide +kernel
theorem dX11_count_85 : decode cX11_count 85 = .ok (.isub, 1) := by decide +kernel
theorem dX11_count_86 : decode cX11_count 86 = .ok (.iaload, 1) := by decide +kernel
theorem dX11_count_87 : decode cX11_count 87 = .ok (.ireturn, 1) := by decide +kernel
theorem dX11_count_88 : decode cX11_count 88 = .ok (.aload_n 0, 1) := by decide +kernel
theorem dX11_count_89 : decode cX11_count 89 = .ok (.getfield 168, 3) := by decide +kernel
theorem dX11_count_92 : decode cX11_count 92 = .ok (.ireturn, 1) := by decide +kernel
theorem dX11_count_93 : decode cX11_count 93 = .ok (.aload_n 0, 1) := by decide +kernel
theorem dX11_count_94 : decode cX11_count 94 = .ok (.getfield 126, 3) := by decide +kernel
theorem dX11_count_97 : decode cX11_count 97 = .ok (.ireturn, 1) := by decide +kernel
theorem dX11_count_98 : decode cX11_count 98 = .ok (.aload_n 0, 1) := by decide +kernel
theorem dX11_count_99 : decode cX11_count 99 = .ok (.getfield 165, 3) := by decide +kernel
theorem dX11_count_102 : decode cX11_count 102 = .ok (.ireturn, 1) := by decide +kernel
theorem dX11_count_103 : decode cX11_count 103 = .ok (.iconst (-1), 1) := by decide +kernel
theorem dX11_count_104 : decode cX11_count 104 = .ok (.ireturn, 1) := by decide +kernel
theorem dJ6_bitCount_0f7a4_0 : decode cJ6_bitCount_0f7a4 0 = .ok (.iload_n 0, 1) := by decide +kernel
theorem dJ6_bitCount_0f7a4_1 : decode cJ6_bitCount_0f7a4 1 = .ok (.iload_n 0, 1) := by decide +kernel
theorem dJ6_bitCount_0f7a4_2 : decode cJ6_bitCount_0f7a4 2 = .ok (.iconst 1, 1) := by decide +kernel
theorem dJ6_bitCount_0f7a4_3 : decode cJ6_bitCount_0f7a4 3 = .ok (.iushr, 1) := by decide +kernel
theorem dJ6_bitCount_0f7a4_4 : decode cJ6_bitCount_0f7a4 4 = .ok (.ldc_w 265, 3) := by decide +kernel
theorem dJ6_bitCount_0f7a4_7 : decode cJ6_bitCount_0f7a4 7 = .ok (.iand, 1) := by decide +kernel
theorem dJ6_bitCount_0f7a4_8 : decode cJ6_bitCount_0f7a4 8 = .ok (.isub, 1) := by decide +kernel
theorem dJ6_bitCount_0f7a4_9 : decode cJ6_bitCount_0f7a4 9 = .ok (.istore_n 0, 1) := by decide +kernel
theorem dJ6_bitCount_0f7a4_10 : decode cJ6_bitCount_0f7a4 10 = .ok (.iload_n 0, 1) := by decide +kernel
theorem dJ6_bitCount_0f7a4_11 : decode cJ6_bitCount_0f7a4 11 = .ok (.ldc_w 266, 3) := by decide +kernel
theorem dJ6_bitCount_0f7a4_14 : decode cJ6_bitCount_0f7a4 14 = .ok (.iand, 1) := by decide +kernel
theorem dJ6_bitCount_0f7a4_15 : decode cJ6_bitCount_0f7a4 15 = .ok (.iload_n 0, 1) := by decide +kernel
theorem dJ6_bitCount_0f7a4_16 : decode cJ6_bitCount_0f7a4 16 = .ok (.iconst 2, 1) := by decide +kernel
theorem dJ6_bitCount_0f7a4_17 : decode cJ6_bitCount_0f7a4 17 = .ok (.iushr, 1) := by decide +kernel
theorem dJ6_bitCount_0f7a4_18 : decode cJ6_bitCount_0f7a4 18 = .ok (.ldc_w 266, 3) := by decide +kernel
theorem dJ6_bitCount_0f7a4_21 : decode cJ6_bitCount_0f7a4 21 = .ok (.iand, 1) := by decide +kernel
theorem dJ6_bitCount_0f7a4_22 : decode cJ6_bitCount_0f7a4 22 = .ok (.iadd, 1) := by decide +kernel
theorem dJ6_bitCount_0f7a4_23 : decode cJ6_bitCount_0f7a4 23 = .ok (.istore_n 0, 1) := by decide +kernel
theorem dJ6_bitCount_0f7a4_24 : decode cJ6_bitCount_0f7a4 24 = .ok (.iload_n 0, 1) := by decide +kernel
theorem dJ6_bitCount_0f7a4_25 : decode cJ6_bitCount_0f7a4 25 = .ok (.iload_n 0, 1) := by decide +kernel
theorem dJ6_bitCount_0f7a4_26 : decode cJ6_bitCount_0f7a4 26 = .ok (.iconst 4, 1) := by decide +kernel
theorem dJ6_bitCount_0f7a4_27 : decode cJ6_bitCount_0f7a4 27 = .ok (.iushr, 1) := by decide +kernel
theorem dJ6_bitCount_0f7a4_28 : decode cJ6_bitCount_0f7a4 28 = .ok (.iadd, 1) := by decide +kernel
theorem dJ6_bitCount_0f7a4_29 : decode cJ6_bitCount_0f7a4 29 = .ok (.ldc_w 267, 3) := by decide +kernel
theorem dJ6_bitCount_0f7a4_32 : decode cJ6_bitCount_0f7a4 32 = .ok (.iand, 1) := by decide +kernel
theorem dJ6_bitCount_0f7a4_33 : decode cJ6_bitCount_0f7a4 33 = .ok (.istore_n 0, 1) := by decide +kernel
theorem dJ6_bitCount_0f7a4_34 : decode cJ6_bitCount_0f7a4 34 = .ok (.iload_n 0, 1) := by decide +kernel
theorem dJ6_bitCount_0f7a4_35 : decode cJ6_bitCount_0f7a4 35 = .ok (.iload_n 0, 1) := by decide +kernel
theorem dJ6_bitCount_0f7a4_36 : decode cJ6_bitCount_0f7a4 36 = .ok (.bipush 8, 2) := by decide +kernel
theorem dJ6_bitCount_0f7a4_38 : decode cJ6_bitCount_0f7a4 38 = .ok (.iushr, 1) := by decide +kernel
theorem dJ6_bitCount_0f7a4_39 : decode cJ6_bitCount_0f7a4 39 = .ok (.iadd, 1) := by decide +kernel
theorem dJ6_bitCount_0f7a4_40 : decode cJ6_bitCount_0f7a4 40 = .ok (.istore_n 0, 1) := by decide +kernel
theorem dJ6_bitCount_0f7a4_41 : decode cJ6_bitCount_0f7a4 41 = .ok (.iload_n 0, 1) := by decide +kernel
theorem dJ6_bitCount_0f7a4_42 : decode cJ6_bitCount_0f7a4 42 = .ok (.iload_n 0, 1) := by decide +kernel
theorem dJ6_bitCount_0f7a4_43 : decode cJ6_bitCount_0f7a4 43 = .ok (.bipush 16, 2) := by decide +kernel
theorem dJ6_bitCount_0f7a4_45 : decode cJ6_bitCount_0f7a4 45 = .ok (.iushr, 1) := by decide +kernel
theorem dJ6_bitCount_0f7a4_46 : decode cJ6_bitCount_0f7a4 46 = .ok (.iadd, 1) := by decide +kernel
theorem dJ6_bitCount_0f7a4_47 : decode cJ6_bitCount_0f7a4 47 = .ok (.istore_n 0, 1) := by decide +kernel
theorem dJ6_bitCount_0f7a4_48 : decode cJ6_bitCount_0f7a4 48 = .ok (.iload_n 0, 1) := by decide +kernel
theorem dJ6_bitCount_0f7a4_49 : decode cJ6_bitCount_0f7a4 49 = .ok (.bipush 63, 2) := by decide +kernel
theorem dJ6_bitCount_0f7a4_51 : decode cJ6_bitCount_0f7a4 51 = .ok (.iand, 1) := by decide +kernel
theorem dJ6_bitCount_0f7a4_52 : decode cJ6_bitCount_0f7a4 52 = .ok (.ireturn, 1) := by decide +kernel
theorem dJ9_max_7cf53_0 : decode cJ9_max_7cf53 0 = .ok (.iload_n 0, 1) := by decide +kernel
theorem dJ9_max_7cf53_1 : decode cJ9_max_7cf53 1 = .ok (.iload_n 1, 1) := by decide +kernel
theorem dJ9_max_7cf53_2 : decode cJ9_max_7cf53 2 = .ok (.if_icmp .lt 7, 3) := by decide +kernel
theorem dJ9_max_7cf53_5 : decode cJ9_max_7cf53 5 = .ok (.iload_n 0, 1) := by decide +kernel
theorem dJ9_max_7cf53_6 : decode cJ9_max_7cf53 6 = .ok (.goto 4, 3) := by decide +kernel
theorem dJ9_max_7cf53_9 : decode cJ9_max_7cf53 9 = .ok (.iload_n 1, 1) := by decide +kernel
theorem dJ9_max_7cf53_10 : decode cJ9_max_7cf53 10 = .ok (.ireturn, 1) := by decide +kernel
theorem dJ9_min_7cf53_0 : decode cJ9_min_7cf53 0 = .ok (.iload_n 0, 1) := by decide +kernel
theorem dJ9_min_7cf53_1 : decode cJ9_min_7cf53 1 = .ok (.iload_n 1, 1) := by decide +kernel
theorem dJ9_min_7cf53_2 : decode cJ9_min_7cf53 2 = .ok (.if_icmp .gt 7, 3) := by decide +kernel
theorem dJ9_min_7cf53_5 : decode cJ9_min_7cf53 5 = .ok (.iload_n 0, 1) := by decide +kernel
theorem dJ9_min_7cf53_6 : decode cJ9_min_7cf53 6 = .ok (.goto 4, 3) := by decide +kernel
theorem dJ9_min_7cf53_9 : decode cJ9_min_7cf53 9 = .ok (.iload_n 1, 1) := by decide +kernel
theorem dJ9_min_7cf53_10 : decode cJ9_min_7cf53 10 = .ok (.ireturn, 1) := by decide +kernel
theorem dJ7_fill_53178_0 : decode cJ7_fill_53178 0 = .ok (.iconst 0, 1) := by decide +kernel
theorem dJ7_fill_53178_1 : decode cJ7_fill_53178 1 = .ok (.istore_n 2, 1) := by decide +kernel
theorem dJ7_fill_53178_2 : decode cJ7_fill_53178 2 = .ok (.aload_n 0, 1) := by decide +kernel
theorem dJ7_fill_53178_3 : decode cJ7_fill_53178 3 = .ok (.arraylength, 1) := by decide +kernel
theorem dJ7_fill_53178_4 : decode cJ7_fill_53178 4 = .ok (.istore_n 3, 1) := by decide +kernel
theorem dJ7_fill_53178_5 : decode cJ7_fill_53178 5 = .ok (.iload_n 2, 1) := by decide +kernel
theorem dJ7_fill_53178_6 : decode cJ7_fill_53178 6 = .ok (.iload_n 3, 1) := by decide +kernel
theorem dJ7_fill_53178_7 : decode cJ7_fill_53178 7 = .ok (.if_icmp .ge 13, 3) := by decide +kernel
theorem dJ7_fill_53178_10 : decode cJ7_fill_53178 10 = .ok (.aload_n 0, 1) := by decide +kernel
theorem dJ7_fill_53178_11 : decode cJ7_fill_53178 11 = .ok (.iload_n 2, 1) := by decide +kernel
theorem dJ7_fill_53178_12 : decode cJ7_fill_53178 12 = .ok (.iload_n 1, 1) := by decide +kernel
theorem dJ7_fill_53178_13 : decode cJ7_fill_53178 13 = .ok (.iastore, 1) := by decide +kernel
theorem dJ7_fill_53178_14 : decode cJ7_fill_53178 14 = .ok (.iinc 2 1, 3) := by decide +kernel
theorem dJ7_fill_53178_17 : decode cJ7_fill_53178 17 = .ok (.goto (-12), 3) := by decide +kernel
theorem dJ7_fill_53178_20 : decode cJ7_fill_53178 20 = .ok (.return_, 1) := by decide +kernel
theorem dL_law_0 : decode cL_law 0 = .ok (.new 7, 3) := by decide +kernel
theorem dL_law_3 : decode cL_law 3 = .ok (.dup, 1) := by decide +kernel
theorem dL_law_4 : decode cL_law 4 = .ok (.invokespecial 9, 3) := by decide +kernel
theorem dL_law_7 : decode cL_law 7 = .ok (.astore_n 1, 1) := by decide +kernel
theorem dL_law_8 : decode cL_law 8 = .ok (.new 10, 3) := by decide +kernel
theorem dL_law_11 : decode cL_law 11 = .ok (.dup, 1) := by decide +kernel
theorem dL_law_12 : decode cL_law 12 = .ok (.invokespecial 12, 3) := by decide +kernel
theorem dL_law_15 : decode cL_law 15 = .ok (.astore_n 2, 1) := by decide +kernel
theorem dL_law_16 : decode cL_law 16 = .ok (.iconst 0, 1) := by decide +kernel
theorem dL_law_17 : decode cL_law 17 = .ok (.istore_n 3, 1) := by decide +kernel
theorem dL_law_18 : decode cL_law 18 = .ok (.iload_n 3, 1) := by decide +kernel
theorem dL_law_19 : decode cL_law 19 = .ok (.aload_n 0, 1) := by decide +kernel
theorem dL_law_20 : decode cL_law 20 = .ok (.arraylength, 1) := by decide +kernel
theorem dL_law_21 : decode cL_law 21 = .ok (.bipush 6, 2) := by decide +kernel
theorem dL_law_23 : decode cL_law 23 = .ok (.isub, 1) := by decide +kernel
theorem dL_law_24 : decode cL_law 24 = .ok (.if_icmp .gt 725, 3) := by decide +kernel
theorem dL_law_27 : decode cL_law 27 = .ok (.aload_n 0, 1) := by decide +kernel
theorem dL_law_28 : decode cL_law 28 = .ok (.iload_n 3, 1) := by decide +kernel
theorem dL_law_29 : decode cL_law 29 = .ok (.iaload, 1) := by decide +kernel
theorem dL_law_30 : decode cL_law 30 = .ok (.bipush 31, 2) := by decide +kernel
theorem dL_law_32 : decode cL_law 32 = .ok (.iand, 1) := by decide +kernel
theorem dL_law_33 : decode cL_law 33 = .ok (.tableswitch 710 0 24 #[115, 138, 151, 164, 197, 260, 283, 326, 339, 362, 375, 418, 451, 494, 517, 530, 543, 556, 569, 592, 615, 628, 641, 664, 687], 115) := by decide +kernel
theorem dL_law_148 : decode cL_law 148 = .ok (.aload_n 1, 1) := by decide +kernel
theorem dL_law_149 : decode cL_law 149 = .ok (.aload_n 0, 1) := by decide +kernel
theorem dL_law_150 : decode cL_law 150 = .ok (.iload_n 3, 1) := by decide +kernel
theorem dL_law_151 : decode cL_law 151 = .ok (.iconst 1, 1) := by decide +kernel
theorem dL_law_152 : decode cL_law 152 = .ok (.iadd, 1) := by decide +kernel
theorem dL_law_153 : decode cL_law 153 = .ok (.iaload, 1) := by decide +kernel
theorem dL_law_154 : decode cL_law 154 = .ok (.invokevirtual 13, 3) := by decide +kernel
theorem dL_law_157 : decode cL_law 157 = .ok (.aload_n 2, 1) := by decide +kernel
theorem dL_law_158 : decode cL_law 158 = .ok (.aload_n 0, 1) := by decide +kernel
theorem dL_law_159 : decode cL_law 159 = .ok (.iload_n 3, 1) := by decide +kernel
theorem dL_law_160 : decode cL_law 160 = .ok (.iconst 1, 1) := by decide +kernel
theorem dL_law_161 : decode cL_law 161 = .ok (.iadd, 1) := by decide +kernel
theorem dL_law_162 : decode cL_law 162 = .ok (.iaload, 1) := by decide +kernel
theorem dL_law_163 : decode cL_law 163 = .ok (.invokevirtual 17, 3) := by decide +kernel
theorem dL_law_166 : decode cL_law 166 = .ok (.if_icmp .eq 577, 3) := by decide +kernel
theorem dL_law_169 : decode cL_law 169 = .ok (.iconst 0, 1) := by decide +kernel
theorem dL_law_170 : decode cL_law 170 = .ok (.ireturn, 1) := by decide +kernel
theorem dL_law_171 : decode cL_law 171 = .ok (.aload_n 1, 1) := by decide +kernel
theorem dL_law_172 : decode cL_law 172 = .ok (.invokevirtual 18, 3) := by decide +kernel
theorem dL_law_175 : decode cL_law 175 = .ok (.aload_n 2, 1) := by decide +kernel
theorem dL_law_176 : decode cL_law 176 = .ok (.invokevirtual 22, 3) := by decide +kernel
theorem dL_law_179 : decode cL_law 179 = .ok (.if_icmp .eq 564, 3) := by decide +kernel
theorem dL_law_182 : decode cL_law 182 = .ok (.iconst 0, 1) := by decide +kernel
theorem dL_law_183 : decode cL_law 183 = .ok (.ireturn, 1) := by decide +kernel
theorem dL_law_184 : decode cL_law 184 = .ok (.aload_n 1, 1) := by decide +kernel
theorem dL_law_185 : decode cL_law 185 = .ok (.invokevirtual 23, 3) := by decide +kernel
theorem dL_law_188 : decode cL_law 188 = .ok (.aload_n 2, 1) := by decide +kernel
theorem dL_law_189 : decode cL_law 189 = .ok (.invokevirtual 26, 3) := by decide +kernel
theorem dL_law_192 : decode cL_law 192 = .ok (.if_icmp .eq 551, 3) := by decide +kernel
theorem dL_law_195 : decode cL_law 195 = .ok (.iconst 0, 1) := by decide +kernel
theorem dL_law_196 : decode cL_law 196 = .ok (.ireturn, 1) := by decide +kernel
theorem dL_law_197 : decode cL_law 197 = .ok (.aload_n 1, 1) := by decide +kernel
theorem dL_law_198 : decode cL_law 198 = .ok (.aload_n 0, 1) := by decide +kernel
theorem dL_law_199 : decode cL_law 199 = .ok (.iload_n 3, 1) := by decide +kernel
theorem dL_law_200 : decode cL_law 200 = .ok (.iconst 1, 1) := by decide +kernel
theorem dL_law_201 : decode cL_law 201 = .ok (.iadd, 1) := by decide +kernel
theorem dL_law_202 : decode cL_law 202 = .ok (.iaload, 1) := by decide +kernel
theorem dL_law_203 : decode cL_law 203 = .ok (.aload_n 0, 1) := by decide +kernel
theorem dL_law_204 : decode cL_law 204 = .ok (.iload_n 3, 1) := by decide +kernel
theorem dL_law_205 : decode cL_law 205 = .ok (.iconst 2, 1) := by decide +kernel
theorem dL_law_206 : decode cL_law 206 = .ok (.iadd, 1) := by decide +kernel
theorem dL_law_207 : decode cL_law 207 = .ok (.iaload, 1) := by decide +kernel
theorem dL_law_208 : decode cL_law 208 = .ok (.invokevirtual 27, 3) := by decide +kernel
theorem dL_law_211 : decode cL_law 211 = .ok (.aload_n 2, 1) := by decide +kernel
theorem dL_law_212 : decode cL_law 212 = .ok (.aload_n 0, 1) := by decide +kernel
theorem dL_law_213 : decode cL_law 213 = .ok (.iload_n 3, 1) := by decide +kernel
theorem dL_law_214 : decode cL_law 214 = .ok (.iconst 1, 1) := by decide +kernel
theorem dL_law_215 : decode cL_law 215 = .ok (.iadd, 1) := by decide +kernel
theorem dL_law_216 : decode cL_law 216 = .ok (.iaload, 1) := by decide +kernel
theorem dL_law_217 : decode cL_law 217 = .ok (.aload_n 0, 1) := by decide +kernel
theorem dL_law_218 : decode cL_law 218 = .ok (.iload_n 3, 1) := by decide +kernel
theorem dL_law_219 : decode cL_law 219 = .ok (.iconst 2, 1) := by decide +kernel
theorem dL_law_220 : decode cL_law 220 = .ok (.iadd, 1) := by decide +kernel
theorem dL_law_221 : decode cL_law 221 = .ok (.iaload, 1) := by decide +kernel
theorem dL_law_222 : decode cL_law 222 = .ok (.invokevirtual 31, 3) := by decide +kernel
theorem dL_law_225 : decode cL_law 225 = .ok (.if_icmp .eq 518, 3) := by decide +kernel
theorem dL_law_228 : decode cL_law 228 = .ok (.iconst 0, 1) := by decide +kernel
theorem dL_law_229 : decode cL_law 229 = .ok (.ireturn, 1) := by decide +kernel
theorem dL_law_230 : decode cL_law 230 = .ok (.aload_n 1, 1) := by decide +kernel
theorem dL_law_231 : decode cL_law 231 = .ok (.aload_n 0, 1) := by decide +kernel
theorem dL_law_232 : decode cL_law 232 = .ok (.iload_n 3, 1) := by decide +kernel
theorem dL_law_233 : decode cL_law 233 = .ok (.iconst 1, 1) := by decide +kernel
theorem dL_law_234 : decode cL_law 234 = .ok (.iadd, 1) := by decide +kernel
theorem dL_law_235 : decode cL_law 235 = .ok (.iaload, 1) := by decide +kernel
theorem dL_law_236 : decode cL_law 236 = .ok (.aload_n 0, 1) := by decide +kernel
theorem dL_law_237 : decode cL_law 237 = .ok (.iload_n 3, 1) := by decide +kernel
theorem dL_law_238 : decode cL_law 238 = .ok (.iconst 2, 1) := by decide +kernel
theorem dL_law_239 : decode cL_law 239 = .ok (.iadd, 1) := by decide +kernel
theorem dL_law_240 : decode cL_law 240 = .ok (.iaload, 1) := by decide +kernel
theorem dL_law_241 : decode cL_law 241 = .ok (.aload_n 0, 1) := by decide +kernel
theorem dL_law_242 : decode cL_law 242 = .ok (.iload_n 3, 1) := by decide +kernel
theorem dL_law_243 : decode cL_law 243 = .ok (.iconst 3, 1) := by decide +kernel
theorem dL_law_244 : decode cL_law 244 = .ok (.iadd, 1) := by decide +kernel
theorem dL_law_245 : decode cL_law 245 = .ok (.iaload, 1) := by decide +kernel
theorem dL_law_246 : decode cL_law 246 = .ok (.aload_n 0, 1) := by decide +kernel
theorem dL_law_247 : decode cL_law 247 = .ok (.iload_n 3, 1) := by decide +kernel
theorem dL_law_248 : decode cL_law 248 = .ok (.iconst 4, 1) := by decide +kernel
theorem dL_law_249 : decode cL_law 249 = .ok (.iadd, 1) := by decide +kernel
theorem dL_law_250 : decode cL_law 250 = .ok (.iaload, 1) := by decide +kernel
theorem dL_law_251 : decode cL_law 251 = .ok (.aload_n 0, 1) := by decide +kernel
theorem dL_law_252 : decode cL_law 252 = .ok (.iload_n 3, 1) := by decide +kernel
theorem dL_law_253 : decode cL_law 253 = .ok (.iconst 5, 1) := by decide +kernel
theorem dL_law_254 : decode cL_law 254 = .ok (.iadd, 1) := by decide +kernel
theorem dL_law_255 : decode cL_law 255 = .ok (.iaload, 1) := by decide +kernel
theorem dL_law_256 : decode cL_law 256 = .ok (.invokevirtual 32, 3) := by decide +kernel
theorem dL_law_259 : decode cL_law 259 = .ok (.aload_n 2, 1) := by decide +kernel
theorem dL_law_260 : decode cL_law 260 = .ok (.aload_n 0, 1) := by decide +kernel
theorem dL_law_261 : decode cL_law 261 = .ok (.iload_n 3, 1) := by decide +kernel
theorem dL_law_262 : decode cL_law 262 = .ok (.iconst 1, 1) := by decide +kernel
theorem dL_law_263 : decode cL_law 263 = .ok (.iadd, 1) := by decide +kernel
theorem dL_law_264 : decode cL_law 264 = .ok (.iaload, 1) := by decide +kernel
theorem dL_law_265 : decode cL_law 265 = .ok (.aload_n 0, 1) := by decide +kernel
theorem dL_law_266 : decode cL_law 266 = .ok (.iload_n 3, 1) := by decide +kernel
theorem dL_law_267 : decode cL_law 267 = .ok (.iconst 2, 1) := by decide +kernel
theorem dL_law_268 : decode cL_law 268 = .ok (.iadd, 1) := by decide +kernel
theorem dL_law_269 : decode cL_law 269 = .ok (.iaload, 1) := by decide +kernel
theorem dL_law_270 : decode cL_law 270 = .ok (.aload_n 0, 1) := by decide +kernel
theorem dL_law_271 : decode cL_law 271 = .ok (.iload_n 3, 1) := by decide +kernel
theorem dL_law_272 : decode cL_law 272 = .ok (.iconst 3, 1) := by decide +kernel
theorem dL_law_273 : decode cL_law 273 = .ok (.iadd, 1) := by decide +kernel
theorem dL_law_274 : decode cL_law 274 = .ok (.iaload, 1) := by decide +kernel
theorem dL_law_275 : decode cL_law 275 = .ok (.aload_n 0, 1) := by decide +kernel
theorem dL_law_276 : decode cL_law 276 = .ok (.iload_n 3, 1) := by decide +kernel
theorem dL_law_277 : decode cL_law 277 = .ok (.iconst 4, 1) := by decide +kernel
theorem dL_law_278 : decode cL_law 278 = .ok (.iadd, 1) := by decide +kernel
theorem dL_law_279 : decode cL_law 279 = .ok (.iaload, 1) := by decide +kernel
theorem dL_law_280 : decode cL_law 280 = .ok (.aload_n 0, 1) := by decide +kernel
theorem dL_law_281 : decode cL_law 281 = .ok (.iload_n 3, 1) := by decide +kernel
theorem dL_law_282 : decode cL_law 282 = .ok (.iconst 5, 1) := by decide +kernel
theorem dL_law_283 : decode cL_law 283 = .ok (.iadd, 1) := by decide +kernel
theorem dL_law_284 : decode cL_law 284 = .ok (.iaload, 1) := by decide +kernel
theorem dL_law_285 : decode cL_law 285 = .ok (.invokevirtual 36, 3) := by decide +kernel
theorem dL_law_288 : decode cL_law 288 = .ok (.if_icmp .eq 455, 3) := by decide +kernel
theorem dL_law_291 : decode cL_law 291 = .ok (.iconst 0, 1) := by decide +kernel
theorem dL_law_292 : decode cL_law 292 = .ok (.ireturn, 1) := by decide +kernel
theorem dL_law_293 : decode cL_law 293 = .ok (.aload_n 1, 1) := by decide +kernel
theorem dL_law_294 : decode cL_law 294 = .ok (.aload_n 0, 1) := by decide +kernel
theorem dL_law_295 : decode cL_law 295 = .ok (.iload_n 3, 1) := by decide +kernel
theorem dL_law_296 : decode cL_law 296 = .ok (.iconst 1, 1) := by decide +kernel
theorem dL_law_297 : decode cL_law 297 = .ok (.iadd, 1) := by decide +kernel
theorem dL_law_298 : decode cL_law 298 = .ok (.iaload, 1) := by decide +kernel
theorem dL_law_299 : decode cL_law 299 = .ok (.invokevirtual 37, 3) := by decide +kernel
theorem dL_law_302 : decode cL_law 302 = .ok (.aload_n 2, 1) := by decide +kernel
theorem dL_law_303 : decode cL_law 303 = .ok (.aload_n 0, 1) := by decide +kernel
theorem dL_law_304 : decode cL_law 304 = .ok (.iload_n 3, 1) := by decide +kernel
theorem dL_law_305 : decode cL_law 305 = .ok (.iconst 1, 1) := by decide +kernel
theorem dL_law_306 : decode cL_law 306 = .ok (.iadd, 1) := by decide +kernel
theorem dL_law_307 : decode cL_law 307 = .ok (.iaload, 1) := by decide +kernel
theorem dL_law_308 : decode cL_law 308 = .ok (.invokevirtual 40, 3) := by decide +kernel
theorem dL_law_311 : decode cL_law 311 = .ok (.if_icmp .eq 432, 3) := by decide +kernel
theorem dL_law_314 : decode cL_law 314 = .ok (.iconst 0, 1) := by decide +kernel
theorem dL_law_315 : decode cL_law 315 = .ok (.ireturn, 1) := by decide +kernel
theorem dL_law_316 : decode cL_law 316 = .ok (.aload_n 1, 1) := by decide +kernel
theorem dL_law_317 : decode cL_law 317 = .ok (.aload_n 0, 1) := by decide +kernel
theorem dL_law_318 : decode cL_law 318 = .ok (.iload_n 3, 1) := by decide +kernel
theorem dL_law_319 : decode cL_law 319 = .ok (.iconst 1, 1) := by decide +kernel
theorem dL_law_320 : decode cL_law 320 = .ok (.iadd, 1) := by decide +kernel
theorem dL_law_321 : decode cL_law 321 = .ok (.iaload, 1) := by decide +kernel
theorem dL_law_322 : decode cL_law 322 = .ok (.aload_n 0, 1) := by decide +kernel
theorem dL_law_323 : decode cL_law 323 = .ok (.iload_n 3, 1) := by decide +kernel
theorem dL_law_324 : decode cL_law 324 = .ok (.iconst 2, 1) := by decide +kernel
theorem dL_law_325 : decode cL_law 325 = .ok (.iadd, 1) := by decide +kernel
theorem dL_law_326 : decode cL_law 326 = .ok (.iaload, 1) := by decide +kernel
theorem dL_law_327 : decode cL_law 327 = .ok (.aload_n 0, 1) := by decide +kernel
theorem dL_law_328 : decode cL_law 328 = .ok (.iload_n 3, 1) := by decide +kernel
theorem dL_law_329 : decode cL_law 329 = .ok (.iconst 3, 1) := by decide +kernel
theorem dL_law_330 : decode cL_law 330 = .ok (.iadd, 1) := by decide +kernel
theorem dL_law_331 : decode cL_law 331 = .ok (.iaload, 1) := by decide +kernel
theorem dL_law_332 : decode cL_law 332 = .ok (.invokevirtual 41, 3) := by decide +kernel
theorem dL_law_335 : decode cL_law 335 = .ok (.aload_n 2, 1) := by decide +kernel
theorem dL_law_336 : decode cL_law 336 = .ok (.aload_n 0, 1) := by decide +kernel
theorem dL_law_337 : decode cL_law 337 = .ok (.iload_n 3, 1) := by decide +kernel
theorem dL_law_338 : decode cL_law 338 = .ok (.iconst 1, 1) := by decide +kernel
theorem dL_law_339 : decode cL_law 339 = .ok (.iadd, 1) := by decide +kernel
theorem dL_law_340 : decode cL_law 340 = .ok (.iaload, 1) := by decide +kernel
theorem dL_law_341 : decode cL_law 341 = .ok (.aload_n 0, 1) := by decide +kernel
theorem dL_law_342 : decode cL_law 342 = .ok (.iload_n 3, 1) := by decide +kernel
theorem dL_law_343 : decode cL_law 343 = .ok (.iconst 2, 1) := by decide +kernel
theorem dL_law_344 : decode cL_law 344 = .ok (.iadd, 1) := by decide +kernel
theorem dL_law_345 : decode cL_law 345 = .ok (.iaload, 1) := by decide +kernel
theorem dL_law_346 : decode cL_law 346 = .ok (.aload_n 0, 1) := by decide +kernel
theorem dL_law_347 : decode cL_law 347 = .ok (.iload_n 3, 1) := by decide +kernel
theorem dL_law_348 : decode cL_law 348 = .ok (.iconst 3, 1) := by decide +kernel
theorem dL_law_349 : decode cL_law 349 = .ok (.iadd, 1) := by decide +kernel
theorem dL_law_350 : decode cL_law 350 = .ok (.iaload, 1) := by decide +kernel
theorem dL_law_351 : decode cL_law 351 = .ok (.invokevirtual 45, 3) := by decide +kernel
theorem dL_law_354 : decode cL_law 354 = .ok (.if_icmp .eq 389, 3) := by decide +kernel
theorem dL_law_357 : decode cL_law 357 = .ok (.iconst 0, 1) := by decide +kernel
theorem dL_law_358 : decode cL_law 358 = .ok (.ireturn, 1) := by decide +kernel
theorem dL_law_359 : decode cL_law 359 = .ok (.aload_n 1, 1) := by decide +kernel
theorem dL_law_360 : decode cL_law 360 = .ok (.invokevirtual 46, 3) := by decide +kernel
theorem dL_law_363 : decode cL_law 363 = .ok (.aload_n 2, 1) := by decide +kernel
theorem dL_law_364 : decode cL_law 364 = .ok (.invokevirtual 49, 3) := by decide +kernel
theorem dL_law_367 : decode cL_law 367 = .ok (.if_icmp .eq 376, 3) := by decide +kernel
theorem dL_law_370 : decode cL_law 370 = .ok (.iconst 0, 1) := by decide +kernel
theorem dL_law_371 : decode cL_law 371 = .ok (.ireturn, 1) := by decide +kernel
theorem dL_law_372 : decode cL_law 372 = .ok (.aload_n 1, 1) := by decide +kernel
theorem dL_law_373 : decode cL_law 373 = .ok (.aload_n 0, 1) := by decide +kernel
theorem dL_law_374 : decode cL_law 374 = .ok (.iload_n 3, 1) := by decide +kernel
theorem dL_law_375 : decode cL_law 375 = .ok (.iconst 1, 1) := by decide +kernel
theorem dL_law_376 : decode cL_law 376 = .ok (.iadd, 1) := by decide +kernel
theorem dL_law_377 : decode cL_law 377 = .ok (.iaload, 1) := by decide +kernel
theorem dL_law_378 : decode cL_law 378 = .ok (.invokevirtual 50, 3) := by decide +kernel
theorem dL_law_381 : decode cL_law 381 = .ok (.aload_n 2, 1) := by decide +kernel
theorem dL_law_382 : decode cL_law 382 = .ok (.aload_n 0, 1) := by decide +kernel
theorem dL_law_383 : decode cL_law 383 = .ok (.iload_n 3, 1) := by decide +kernel
theorem dL_law_384 : decode cL_law 384 = .ok (.iconst 1, 1) := by decide +kernel
theorem dL_law_385 : decode cL_law 385 = .ok (.iadd, 1) := by decide +kernel
theorem dL_law_386 : decode cL_law 386 = .ok (.iaload, 1) := by decide +kernel
theorem dL_law_387 : decode cL_law 387 = .ok (.invokevirtual 53, 3) := by decide +kernel
theorem dL_law_390 : decode cL_law 390 = .ok (.if_icmp .eq 353, 3) := by decide +kernel
theorem dL_law_393 : decode cL_law 393 = .ok (.iconst 0, 1) := by decide +kernel
theorem dL_law_394 : decode cL_law 394 = .ok (.ireturn, 1) := by decide +kernel
theorem dL_law_395 : decode cL_law 395 = .ok (.aload_n 1, 1) := by decide +kernel
theorem dL_law_396 : decode cL_law 396 = .ok (.invokevirtual 54, 3) := by decide +kernel
theorem dL_law_399 : decode cL_law 399 = .ok (.aload_n 2, 1) := by decide +kernel
theorem dL_law_400 : decode cL_law 400 = .ok (.invokevirtual 57, 3) := by decide +kernel
theorem dL_law_403 : decode cL_law 403 = .ok (.if_icmp .eq 340, 3) := by decide +kernel
theorem dL_law_406 : decode cL_law 406 = .ok (.iconst 0, 1) := by decide +kernel
theorem dL_law_407 : decode cL_law 407 = .ok (.ireturn, 1) := by decide +kernel
theorem dL_law_408 : decode cL_law 408 = .ok (.aload_n 1, 1) := by decide +kernel
theorem dL_law_409 : decode cL_law 409 = .ok (.aload_n 0, 1) := by decide +kernel
theorem dL_law_410 : decode cL_law 410 = .ok (.iload_n 3, 1) := by decide +kernel
theorem dL_law_411 : decode cL_law 411 = .ok (.iconst 1, 1) := by decide +kernel
theorem dL_law_412 : decode cL_law 412 = .ok (.iadd, 1) := by decide +kernel
theorem dL_law_413 : decode cL_law 413 = .ok (.iaload, 1) := by decide +kernel
theorem dL_law_414 : decode cL_law 414 = .ok (.aload_n 0, 1) := by decide +kernel
theorem dL_law_415 : decode cL_law 415 = .ok (.iload_n 3, 1) := by decide +kernel
theorem dL_law_416 : decode cL_law 416 = .ok (.iconst 2, 1) := by decide +kernel
theorem dL_law_417 : decode cL_law 417 = .ok (.iadd, 1) := by decide +kernel
theorem dL_law_418 : decode cL_law 418 = .ok (.iaload, 1) := by decide +kernel
theorem dL_law_419 : decode cL_law 419 = .ok (.aload_n 0, 1) := by decide +kernel
theorem dL_law_420 : decode cL_law 420 = .ok (.iload_n 3, 1) := by decide +kernel
theorem dL_law_421 : decode cL_law 421 = .ok (.iconst 3, 1) := by decide +kernel
theorem dL_law_422 : decode cL_law 422 = .ok (.iadd, 1) := by decide +kernel
theorem dL_law_423 : decode cL_law 423 = .ok (.iaload, 1) := by decide +kernel
theorem dL_law_424 : decode cL_law 424 = .ok (.invokevirtual 58, 3) := by decide +kernel
theorem dL_law_427 : decode cL_law 427 = .ok (.aload_n 2, 1) := by decide +kernel
theorem dL_law_428 : decode cL_law 428 = .ok (.aload_n 0, 1) := by decide +kernel
theorem dL_law_429 : decode cL_law 429 = .ok (.iload_n 3, 1) := by decide +kernel
theorem dL_law_430 : decode cL_law 430 = .ok (.iconst 1, 1) := by decide +kernel
theorem dL_law_431 : decode cL_law 431 = .ok (.iadd, 1) := by decide +kernel
theorem dL_law_432 : decode cL_law 432 = .ok (.iaload, 1) := by decide +kernel
theorem dL_law_433 : decode cL_law 433 = .ok (.aload_n 0, 1) := by decide +kernel
theorem dL_law_434 : decode cL_law 434 = .ok (.iload_n 3, 1) := by decide +kernel
theorem dL_law_435 : decode cL_law 435 = .ok (.iconst 2, 1) := by decide +kernel
theorem dL_law_436 : decode cL_law 436 = .ok (.iadd, 1) := by decide +kernel
theorem dL_law_437 : decode cL_law 437 = .ok (.iaload, 1) := by decide +kernel
theorem dL_law_438 : decode cL_law 438 = .ok (.aload_n 0, 1) := by decide +kernel
theorem dL_law_439 : decode cL_law 439 = .ok (.iload_n 3, 1) := by decide +kernel
theorem dL_law_440 : decode cL_law 440 = .ok (.iconst 3, 1) := by decide +kernel
theorem dL_law_441 : decode cL_law 441 = .ok (.iadd, 1) := by decide +kernel
theorem dL_law_442 : decode cL_law 442 = .ok (.iaload, 1) := by decide +kernel
theorem dL_law_443 : decode cL_law 443 = .ok (.invokevirtual 61, 3) := by decide +kernel
theorem dL_law_446 : decode cL_law 446 = .ok (.if_icmp .eq 297, 3) := by decide +kernel
theorem dL_law_449 : decode cL_law 449 = .ok (.iconst 0, 1) := by decide +kernel
theorem dL_law_450 : decode cL_law 450 = .ok (.ireturn, 1) := by decide +kernel
theorem dL_law_451 : decode cL_law 451 = .ok (.aload_n 1, 1) := by decide +kernel
theorem dL_law_452 : decode cL_law 452 = .ok (.aload_n 0, 1) := by decide +kernel
theorem dL_law_453 : decode cL_law 453 = .ok (.iload_n 3, 1) := by decide +kernel
theorem dL_law_454 : decode cL_law 454 = .ok (.iconst 1, 1) := by decide +kernel
theorem dL_law_455 : decode cL_law 455 = .ok (.iadd, 1) := by decide +kernel
theorem dL_law_456 : decode cL_law 456 = .ok (.iaload, 1) := by decide +kernel
theorem dL_law_457 : decode cL_law 457 = .ok (.aload_n 0, 1) := by decide +kernel
theorem dL_law_458 : decode cL_law 458 = .ok (.iload_n 3, 1) := by decide +kernel
theorem dL_law_459 : decode cL_law 459 = .ok (.iconst 2, 1) := by decide +kernel
theorem dL_law_460 : decode cL_law 460 = .ok (.iadd, 1) := by decide +kernel
theorem dL_law_461 : decode cL_law 461 = .ok (.iaload, 1) := by decide +kernel
theorem dL_law_462 : decode cL_law 462 = .ok (.invokevirtual 62, 3) := by decide +kernel
theorem dL_law_465 : decode cL_law 465 = .ok (.aload_n 2, 1) := by decide +kernel
theorem dL_law_466 : decode cL_law 466 = .ok (.aload_n 0, 1) := by decide +kernel
theorem dL_law_467 : decode cL_law 467 = .ok (.iload_n 3, 1) := by decide +kernel
theorem dL_law_468 : decode cL_law 468 = .ok (.iconst 1, 1) := by decide +kernel
theorem dL_law_469 : decode cL_law 469 = .ok (.iadd, 1) := by decide +kernel
theorem dL_law_470 : decode cL_law 470 = .ok (.iaload, 1) := by decide +kernel
theorem dL_law_471 : decode cL_law 471 = .ok (.aload_n 0, 1) := by decide +kernel
theorem dL_law_472 : decode cL_law 472 = .ok (.iload_n 3, 1) := by decide +kernel
theorem dL_law_473 : decode cL_law 473 = .ok (.iconst 2, 1) := by decide +kernel
theorem dL_law_474 : decode cL_law 474 = .ok (.iadd, 1) := by decide +kernel
theorem dL_law_475 : decode cL_law 475 = .ok (.iaload, 1) := by decide +kernel
theorem dL_law_476 : decode cL_law 476 = .ok (.invokevirtual 65, 3) := by decide +kernel
theorem dL_law_479 : decode cL_law 479 = .ok (.if_icmp .eq 264, 3) := by decide +kernel
theorem dL_law_482 : decode cL_law 482 = .ok (.iconst 0, 1) := by decide +kernel
theorem dL_law_483 : decode cL_law 483 = .ok (.ireturn, 1) := by decide +kernel
theorem dL_law_484 : decode cL_law 484 = .ok (.aload_n 1, 1) := by decide +kernel
theorem dL_law_485 : decode cL_law 485 = .ok (.aload_n 0, 1) := by decide +kernel
theorem dL_law_486 : decode cL_law 486 = .ok (.iload_n 3, 1) := by decide +kernel
theorem dL_law_487 : decode cL_law 487 = .ok (.iconst 1, 1) := by decide +kernel
theorem dL_law_488 : decode cL_law 488 = .ok (.iadd, 1) := by decide +kernel
theorem dL_law_489 : decode cL_law 489 = .ok (.iaload, 1) := by decide +kernel
theorem dL_law_490 : decode cL_law 490 = .ok (.aload_n 0, 1) := by decide +kernel
theorem dL_law_491 : decode cL_law 491 = .ok (.iload_n 3, 1) := by decide +kernel
theorem dL_law_492 : decode cL_law 492 = .ok (.iconst 2, 1) := by decide +kernel
theorem dL_law_493 : decode cL_law 493 = .ok (.iadd, 1) := by decide +kernel
theorem dL_law_494 : decode cL_law 494 = .ok (.iaload, 1) := by decide +kernel
theorem dL_law_495 : decode cL_law 495 = .ok (.aload_n 0, 1) := by decide +kernel
theorem dL_law_496 : decode cL_law 496 = .ok (.iload_n 3, 1) := by decide +kernel
theorem dL_law_497 : decode cL_law 497 = .ok (.iconst 3, 1) := by decide +kernel
theorem dL_law_498 : decode cL_law 498 = .ok (.iadd, 1) := by decide +kernel
theorem dL_law_499 : decode cL_law 499 = .ok (.iaload, 1) := by decide +kernel
theorem dL_law_500 : decode cL_law 500 = .ok (.invokevirtual 66, 3) := by decide +kernel
theorem dL_law_503 : decode cL_law 503 = .ok (.aload_n 2, 1) := by decide +kernel
theorem dL_law_504 : decode cL_law 504 = .ok (.aload_n 0, 1) := by decide +kernel
theorem dL_law_505 : decode cL_law 505 = .ok (.iload_n 3, 1) := by decide +kernel
theorem dL_law_506 : decode cL_law 506 = .ok (.iconst 1, 1) := by decide +kernel
theorem dL_law_507 : decode cL_law 507 = .ok (.iadd, 1) := by decide +kernel
theorem dL_law_508 : decode cL_law 508 = .ok (.iaload, 1) := by decide +kernel
theorem dL_law_509 : decode cL_law 509 = .ok (.aload_n 0, 1) := by decide +kernel
theorem dL_law_510 : decode cL_law 510 = .ok (.iload_n 3, 1) := by decide +kernel
theorem dL_law_511 : decode cL_law 511 = .ok (.iconst 2, 1) := by decide +kernel
theorem dL_law_512 : decode cL_law 512 = .ok (.iadd, 1) := by decide +kernel
theorem dL_law_513 : decode cL_law 513 = .ok (.iaload, 1) := by decide +kernel
theorem dL_law_514 : decode cL_law 514 = .ok (.aload_n 0, 1) := by decide +kernel
theorem dL_law_515 : decode cL_law 515 = .ok (.iload_n 3, 1) := by decide +kernel
theorem dL_law_516 : decode cL_law 516 = .ok (.iconst 3, 1) := by decide +kernel
theorem dL_law_517 : decode cL_law 517 = .ok (.iadd, 1) := by decide +kernel
theorem dL_law_518 : decode cL_law 518 = .ok (.iaload, 1) := by decide +kernel
theorem dL_law_519 : decode cL_law 519 = .ok (.invokevirtual 69, 3) := by decide +kernel
theorem dL_law_522 : decode cL_law 522 = .ok (.if_icmp .eq 221, 3) := by decide +kernel
theorem dL_law_525 : decode cL_law 525 = .ok (.iconst 0, 1) := by decide +kernel
theorem dL_law_526 : decode cL_law 526 = .ok (.ireturn, 1) := by decide +kernel
theorem dL_law_527 : decode cL_law 527 = .ok (.aload_n 1, 1) := by decide +kernel
theorem dL_law_528 : decode cL_law 528 = .ok (.aload_n 0, 1) := by decide +kernel
theorem dL_law_529 : decode cL_law 529 = .ok (.iload_n 3, 1) := by decide +kernel
theorem dL_law_530 : decode cL_law 530 = .ok (.iconst 1, 1) := by decide +kernel
theorem dL_law_531 : decode cL_law 531 = .ok (.iadd, 1) := by decide +kernel
theorem dL_law_532 : decode cL_law 532 = .ok (.iaload, 1) := by decide +kernel
theorem dL_law_533 : decode cL_law 533 = .ok (.invokevirtual 70, 3) := by decide +kernel
theorem dL_law_536 : decode cL_law 536 = .ok (.aload_n 2, 1) := by decide +kernel
theorem dL_law_537 : decode cL_law 537 = .ok (.aload_n 0, 1) := by decide +kernel
theorem dL_law_538 : decode cL_law 538 = .ok (.iload_n 3, 1) := by decide +kernel
theorem dL_law_539 : decode cL_law 539 = .ok (.iconst 1, 1) := by decide +kernel
theorem dL_law_540 : decode cL_law 540 = .ok (.iadd, 1) := by decide +kernel
theorem dL_law_541 : decode cL_law 541 = .ok (.iaload, 1) := by decide +kernel
theorem dL_law_542 : decode cL_law 542 = .ok (.invokevirtual 73, 3) := by decide +kernel
theorem dL_law_545 : decode cL_law 545 = .ok (.if_icmp .eq 198, 3) := by decide +kernel
theorem dL_law_548 : decode cL_law 548 = .ok (.iconst 0, 1) := by decide +kernel
theorem dL_law_549 : decode cL_law 549 = .ok (.ireturn, 1) := by decide +kernel
theorem dL_law_550 : decode cL_law 550 = .ok (.aload_n 1, 1) := by decide +kernel
theorem dL_law_551 : decode cL_law 551 = .ok (.invokevirtual 74, 3) := by decide +kernel
theorem dL_law_554 : decode cL_law 554 = .ok (.aload_n 2, 1) := by decide +kernel
theorem dL_law_555 : decode cL_law 555 = .ok (.invokevirtual 77, 3) := by decide +kernel
theorem dL_law_558 : decode cL_law 558 = .ok (.if_icmp .eq 185, 3) := by decide +kernel
theorem dL_law_561 : decode cL_law 561 = .ok (.iconst 0, 1) := by decide +kernel
theorem dL_law_562 : decode cL_law 562 = .ok (.ireturn, 1) := by decide +kernel
theorem dL_law_563 : decode cL_law 563 = .ok (.aload_n 1, 1) := by decide +kernel
theorem dL_law_564 : decode cL_law 564 = .ok (.invokevirtual 78, 3) := by decide +kernel
theorem dL_law_567 : decode cL_law 567 = .ok (.aload_n 2, 1) := by decide +kernel
theorem dL_law_568 : decode cL_law 568 = .ok (.invokevirtual 81, 3) := by decide +kernel
theorem dL_law_571 : decode cL_law 571 = .ok (.if_icmp .eq 172, 3) := by decide +kernel
theorem dL_law_574 : decode cL_law 574 = .ok (.iconst 0, 1) := by decide +kernel
theorem dL_law_575 : decode cL_law 575 = .ok (.ireturn, 1) := by decide +kernel
theorem dL_law_576 : decode cL_law 576 = .ok (.aload_n 1, 1) := by decide +kernel
theorem dL_law_577 : decode cL_law 577 = .ok (.invokevirtual 82, 3) := by decide +kernel
theorem dL_law_580 : decode cL_law 580 = .ok (.aload_n 2, 1) := by decide +kernel
theorem dL_law_581 : decode cL_law 581 = .ok (.invokevirtual 85, 3) := by decide +kernel
theorem dL_law_584 : decode cL_law 584 = .ok (.if_icmp .eq 159, 3) := by decide +kernel
theorem dL_law_587 : decode cL_law 587 = .ok (.iconst 0, 1) := by decide +kernel
theorem dL_law_588 : decode cL_law 588 = .ok (.ireturn, 1) := by decide +kernel
theorem dL_law_589 : decode cL_law 589 = .ok (.aload_n 1, 1) := by decide +kernel
theorem dL_law_590 : decode cL_law 590 = .ok (.invokevirtual 86, 3) := by decide +kernel
theorem dL_law_593 : decode cL_law 593 = .ok (.aload_n 2, 1) := by decide +kernel
theorem dL_law_594 : decode cL_law 594 = .ok (.invokevirtual 89, 3) := by decide +kernel
theorem dL_law_597 : decode cL_law 597 = .ok (.if_icmp .eq 146, 3) := by decide +kernel
theorem dL_law_600 : decode cL_law 600 = .ok (.iconst 0, 1) := by decide +kernel
theorem dL_law_601 : decode cL_law 601 = .ok (.ireturn, 1) := by decide +kernel
theorem dL_law_602 : decode cL_law 602 = .ok (.aload_n 1, 1) := by decide +kernel
theorem dL_law_603 : decode cL_law 603 = .ok (.aload_n 0, 1) := by decide +kernel
theorem dL_law_604 : decode cL_law 604 = .ok (.iload_n 3, 1) := by decide +kernel
theorem dL_law_605 : decode cL_law 605 = .ok (.iconst 1, 1) := by decide +kernel
theorem dL_law_606 : decode cL_law 606 = .ok (.iadd, 1) := by decide +kernel
theorem dL_law_607 : decode cL_law 607 = .ok (.iaload, 1) := by decide +kernel
theorem dL_law_608 : decode cL_law 608 = .ok (.invokevirtual 90, 3) := by decide +kernel
theorem dL_law_611 : decode cL_law 611 = .ok (.aload_n 2, 1) := by decide +kernel
theorem dL_law_612 : decode cL_law 612 = .ok (.aload_n 0, 1) := by decide +kernel
theorem dL_law_613 : decode cL_law 613 = .ok (.iload_n 3, 1) := by decide +kernel
theorem dL_law_614 : decode cL_law 614 = .ok (.iconst 1, 1) := by decide +kernel
theorem dL_law_615 : decode cL_law 615 = .ok (.iadd, 1) := by decide +kernel
theorem dL_law_616 : decode cL_law 616 = .ok (.iaload, 1) := by decide +kernel
theorem dL_law_617 : decode cL_law 617 = .ok (.invokevirtual 93, 3) := by decide +kernel
theorem dL_law_620 : decode cL_law 620 = .ok (.if_icmp .eq 123, 3) := by decide +kernel
theorem dL_law_623 : decode cL_law 623 = .ok (.iconst 0, 1) := by decide +kernel
theorem dL_law_624 : decode cL_law 624 = .ok (.ireturn, 1) := by decide +kernel
theorem dL_law_625 : decode cL_law 625 = .ok (.aload_n 1, 1) := by decide +kernel
theorem dL_law_626 : decode cL_law 626 = .ok (.aload_n 0, 1) := by decide +kernel
theorem dL_law_627 : decode cL_law 627 = .ok (.iload_n 3, 1) := by decide +kernel
theorem dL_law_628 : decode cL_law 628 = .ok (.iconst 1, 1) := by decide +kernel
theorem dL_law_629 : decode cL_law 629 = .ok (.iadd, 1) := by decide +kernel
theorem dL_law_630 : decode cL_law 630 = .ok (.iaload, 1) := by decide +kernel
theorem dL_law_631 : decode cL_law 631 = .ok (.invokevirtual 94, 3) := by decide +kernel
theorem dL_law_634 : decode cL_law 634 = .ok (.aload_n 2, 1) := by decide +kernel
theorem dL_law_635 : decode cL_law 635 = .ok (.aload_n 0, 1) := by decide +kernel
theorem dL_law_636 : decode cL_law 636 = .ok (.iload_n 3, 1) := by decide +kernel
theorem dL_law_637 : decode cL_law 637 = .ok (.iconst 1, 1) := by decide +kernel
theorem dL_law_638 : decode cL_law 638 = .ok (.iadd, 1) := by decide +kernel
theorem dL_law_639 : decode cL_law 639 = .ok (.iaload, 1) := by decide +kernel
theorem dL_law_640 : decode cL_law 640 = .ok (.invokevirtual 97, 3) := by decide +kernel
theorem dL_law_643 : decode cL_law 643 = .ok (.if_icmp .eq 100, 3) := by decide +kernel
theorem dL_law_646 : decode cL_law 646 = .ok (.iconst 0, 1) := by decide +kernel
theorem dL_law_647 : decode cL_law 647 = .ok (.ireturn, 1) := by decide +kernel
theorem dL_law_648 : decode cL_law 648 = .ok (.aload_n 1, 1) := by decide +kernel
theorem dL_law_649 : decode cL_law 649 = .ok (.invokevirtual 98, 3) := by decide +kernel
theorem dL_law_652 : decode cL_law 652 = .ok (.aload_n 2, 1) := by decide +kernel
theorem dL_law_653 : decode cL_law 653 = .ok (.invokevirtual 101, 3) := by decide +kernel
theorem dL_law_656 : decode cL_law 656 = .ok (.if_icmp .eq 87, 3) := by decide +kernel
theorem dL_law_659 : decode cL_law 659 = .ok (.iconst 0, 1) := by decide +kernel
theorem dL_law_660 : decode cL_law 660 = .ok (.ireturn, 1) := by decide +kernel
theorem dL_law_661 : decode cL_law 661 = .ok (.aload_n 1, 1) := by decide +kernel
theorem dL_law_662 : decode cL_law 662 = .ok (.invokevirtual 102, 3) := by decide +kernel
theorem dL_law_665 : decode cL_law 665 = .ok (.aload_n 2, 1) := by decide +kernel
theorem dL_law_666 : decode cL_law 666 = .ok (.invokevirtual 105, 3) := by decide +kernel
theorem dL_law_669 : decode cL_law 669 = .ok (.if_icmp .eq 74, 3) := by decide +kernel
theorem dL_law_672 : decode cL_law 672 = .ok (.iconst 0, 1) := by decide +kernel
theorem dL_law_673 : decode cL_law 673 = .ok (.ireturn, 1) := by decide +kernel
theorem dL_law_674 : decode cL_law 674 = .ok (.aload_n 1, 1) := by decide +kernel
theorem dL_law_675 : decode cL_law 675 = .ok (.aload_n 0, 1) := by decide +kernel
theorem dL_law_676 : decode cL_law 676 = .ok (.iload_n 3, 1) := by decide +kernel
theorem dL_law_677 : decode cL_law 677 = .ok (.iconst 1, 1) := by decide +kernel
theorem dL_law_678 : decode cL_law 678 = .ok (.iadd, 1) := by decide +kernel
theorem dL_law_679 : decode cL_law 679 = .ok (.iaload, 1) := by decide +kernel
theorem dL_law_680 : decode cL_law 680 = .ok (.invokevirtual 106, 3) := by decide +kernel
theorem dL_law_683 : decode cL_law 683 = .ok (.aload_n 2, 1) := by decide +kernel
theorem dL_law_684 : decode cL_law 684 = .ok (.aload_n 0, 1) := by decide +kernel
theorem dL_law_685 : decode cL_law 685 = .ok (.iload_n 3, 1) := by decide +kernel
theorem dL_law_686 : decode cL_law 686 = .ok (.iconst 1, 1) := by decide +kernel
theorem dL_law_687 : decode cL_law 687 = .ok (.iadd, 1) := by decide +kernel
theorem dL_law_688 : decode cL_law 688 = .ok (.iaload, 1) := by decide +kernel
theorem dL_law_689 : decode cL_law 689 = .ok (.invokevirtual 109, 3) := by decide +kernel
theorem dL_law_692 : decode cL_law 692 = .ok (.if_icmp .eq 51, 3) := by decide +kernel
theorem dL_law_695 : decode cL_law 695 = .ok (.iconst 0, 1) := by decide +kernel
theorem dL_law_696 : decode cL_law 696 = .ok (.ireturn, 1) := by decide +kernel
theorem dL_law_697 : decode cL_law 697 = .ok (.aload_n 1, 1) := by decide +kernel
theorem dL_law_698 : decode cL_law 698 = .ok (.aload_n 0, 1) := by decide +kernel
theorem dL_law_699 : decode cL_law 699 = .ok (.iload_n 3, 1) := by decide +kernel
theorem dL_law_700 : decode cL_law 700 = .ok (.iconst 1, 1) := by decide +kernel
theorem dL_law_701 : decode cL_law 701 = .ok (.iadd, 1) := by decide +kernel
theorem dL_law_702 : decode cL_law 702 = .ok (.iaload, 1) := by decide +kernel
theorem dL_law_703 : decode cL_law 703 = .ok (.invokevirtual 110, 3) := by decide +kernel
theorem dL_law_706 : decode cL_law 706 = .ok (.aload_n 2, 1) := by decide +kernel
theorem dL_law_707 : decode cL_law 707 = .ok (.aload_n 0, 1) := by decide +kernel
theorem dL_law_708 : decode cL_law 708 = .ok (.iload_n 3, 1) := by decide +kernel
theorem dL_law_709 : decode cL_law 709 = .ok (.iconst 1, 1) := by decide +kernel
theorem dL_law_710 : decode cL_law 710 = .ok (.iadd, 1) := by decide +kernel
theorem dL_law_711 : decode cL_law 711 = .ok (.iaload, 1) := by decide +kernel
theorem dL_law_712 : decode cL_law 712 = .ok (.invokevirtual 113, 3) := by decide +kernel
theorem dL_law_715 : decode cL_law 715 = .ok (.if_icmp .eq 28, 3) := by decide +kernel
theorem dL_law_718 : decode cL_law 718 = .ok (.iconst 0, 1) := by decide +kernel
theorem dL_law_719 : decode cL_law 719 = .ok (.ireturn, 1) := by decide +kernel
theorem dL_law_720 : decode cL_law 720 = .ok (.aload_n 1, 1) := by decide +kernel
theorem dL_law_721 : decode cL_law 721 = .ok (.aload_n 0, 1) := by decide +kernel
theorem dL_law_722 : decode cL_law 722 = .ok (.iload_n 3, 1) := by decide +kernel
theorem dL_law_723 : decode cL_law 723 = .ok (.iconst 1, 1) := by decide +kernel
theorem dL_law_724 : decode cL_law 724 = .ok (.iadd, 1) := by decide +kernel
theorem dL_law_725 : decode cL_law 725 = .ok (.iaload, 1) := by decide +kernel
theorem dL_law_726 : decode cL_law 726 = .ok (.invokevirtual 114, 3) := by decide +kernel
theorem dL_law_729 : decode cL_law 729 = .ok (.aload_n 2, 1) := by decide +kernel
theorem dL_law_730 : decode cL_law 730 = .ok (.aload_n 0, 1) := by decide +kernel
theorem dL_law_731 : decode cL_law 731 = .ok (.iload_n 3, 1) := by decide +kernel
theorem dL_law_732 : decode cL_law 732 = .ok (.iconst 1, 1) := by decide +kernel
theorem dL_law_733 : decode cL_law 733 = .ok (.iadd, 1) := by decide +kernel
theorem dL_law_734 : decode cL_law 734 = .ok (.iaload, 1) := by decide +kernel
theorem dL_law_735 : decode cL_law 735 = .ok (.invokevirtual 117, 3) := by decide +kernel
theorem dL_law_738 : decode cL_law 738 = .ok (.if_icmp .eq 5, 3) := by decide +kernel
theorem dL_law_741 : decode cL_law 741 = .ok (.iconst 0, 1) := by decide +kernel
theorem dL_law_742 : decode cL_law 742 = .ok (.ireturn, 1) := by decide +kernel
theorem dL_law_743 : decode cL_law 743 = .ok (.iinc 3 6, 3) := by decide +kernel
theorem dL_law_746 : decode cL_law 746 = .ok (.goto (-728), 3) := by decide +kernel
theorem dL_law_749 : decode cL_law 749 = .ok (.iconst 1, 1) := by decide +kernel
theorem dL_law_750 : decode cL_law 750 = .ok (.ireturn, 1) := by decide +kernel
end
section
section PWCORE
/-! THE PURE WORLD: cells by place (0, 1, ..), ints as Int, references as places; PW: the machine at a pc, told in pure words; PC: a method's contract in pure words -/
abbrev PTy : Type := Nat ⊕ (Nat × Nat)
abbrev PV : Type := Int ⊕ Option Nat
abbrev PIm : Type := Nat → Int → Int
abbrev PRm : Type := Nat → Int → Option Nat
abbrev PMI : Type := MethodName × ByteArray × Nat × Option FieldType
abbrev PWd : Type := Nat × Nat × Nat × va_G × ClassId × ClassId × ClassId
abbrev PSc : Type := Nat × (Nat → Int32)
abbrev PPost : Type := Option PV → List PTy → PIm → PRm → Prop
def pw_gw : List Cond := lw_tbl.filter goodWord
def pw_isNest : Cond → Bool
  | .methodLinkNest _ _ _ _ => true
  | _ => false
def pw_nest : List Cond := lw_tbl.filter pw_isNest
def pw_ad (w : PWd) (p : Nat) : Nat := if p = 100000 then w.2.1 else if p = 100001 then w.2.2.1 else w.1 + p
def pw_tv (w : PWd) : PV → Value
  | .inl z => .int (Int32.ofInt z)
  | .inr none => .null
  | .inr (some p) => .ref (pw_ad w p)
def pw_isref : FieldType → Bool
  | .object _ => true
  | .array _ => true
  | _ => false
def pw_ft : Nat → Nat → FieldType := fun ci => match ci with
  | 0 => tyX0
  | 1 => tyX1
  | 2 => tyX2
  | 3 => tyX3
  | 4 => tyX4
  | 5 => tyX5
  | 6 => tyX6
  | 7 => tyX7
  | 8 => tyX8
  | 9 => tyX9
  | 10 => tyX10
  | _ => tyX11
def pw_fn : Nat → Nat := fun ci => match ci with
  | 0 => 5
  | 1 => 5
  | 2 => 6
  | 3 => 2
  | 4 => 3
  | 5 => 2
  | 6 => 3
  | 7 => 3
  | 8 => 7
  | 9 => 6
  | 10 => 13
  | _ => 41
def pw_fv (w : PWd) (ci : Nat) (i : Int → Int) (r : Int → Option Nat) (k : Nat) : Value := if pw_isref (pw_ft ci k) = true then va_rf ((r (k : Int)).map (pw_ad w)) else .int (Int32.ofInt (i (k : Int)))
def pw_fs (w : PWd) (ci : Nat) (i : Int → Int) (r : Int → Option Nat) : List Value := (List.range (pw_fn ci)).map (pw_fv w ci i r)
def pw_ce (w : PWd) (T : PTy) (i : Int → Int) (r : Int → Option Nat) : va_E := match T with
  | .inl ci => .inr (ci, pw_fs w ci i r)
  | .inr (0, n) => .inl (w.2.2.2.2.1, n, .inl (fun j => Int32.ofInt (i (j : Int))))
  | .inr (1, n) => .inl (w.2.2.2.2.2.1, n, .inl (fun j => Int32.ofInt (i (j : Int))))
  | .inr (_ + 2, n) => .inl (w.2.2.2.2.2.2, n, .inr (.inr (.inr (.inr (fun j => (r (j : Int)).map (pw_ad w))))))
def pw_Rep (w : PWd) (Γ : List PTy) (I : PIm) (R : PRm) (H : Heap) : Prop := H.size = w.1 + Γ.length ∧ Γ.length ≤ 100000 ∧ ∀ (p : Nat) (T : PTy), Γ[p]? = some T → va_at w.2.2.2.1 vwCl (w.1 + p, pw_ce w T (I p) (R p)) H
def pw_A (w : PWd) : Nat → Prop := fun q => w.1 ≤ q
def pw_tys (w : PWd) : List (ClassId × FieldType) := [(w.2.2.2.2.1, .int), (w.2.2.2.2.2.1, .boolean), (w.2.2.2.2.2.2, .object "FlushedPipes$Setting")]
def pw_fw (j : Int) : Int := if j = 3 then 4 else if j = 4 then 3 else j
def pw_WK (w : PWd) (U : State) : Prop := va_K w.2.2.2.1 vwCl (pw_tys w) U ∧ (∀ c ∈ pw_nest, va_Nw c U) ∧ va_AO "FlushedPipes$Setting" U
def pw_RO (w : PWd) (sc : PSc) (U : State) (H : Heap) : Prop := va_X w.2.1 sc.1 sc.2 U H ∧ w.2.1 < w.1 ∧ va_Z "FlushedPipes" "FORWARDS_BY_BITS" "[I" (.ref w.2.2.1) (pw_A w) U H ∧ va_T .int w.2.2.1 8 (fun j => .int (Int32.ofInt (pw_fw (j : Int)))) (pw_A w) U H ∧ w.1 ≤ H.size
def pw_Cx (sc : PSc) (μ : PMI) (d : Nat) (w : PWd) (p : Program) (RM : Room) (s : State) (m : MethodId) (args : Array Value) (meth : Method) (c : Code) : Prop :=
  p.tables.exec = Jvm.exec ∧ c.code = μ.2.1 ∧ c.maxLocals = μ.2.2.1 ∧ s.vm.findClass μ.1.cls = some m.cls ∧ (∀ x ∈ pw_gw, x.before args s = true) ∧ meth.name = μ.1.name ∧ (d + 1 ≤ RM.frames ∧ 40 * (d + 1) ≤ RM.locals) ∧ pw_WK w s ∧ pw_RO w sc s s.heap
def pw_L (w : PWd) (ls : Array Slot) (n : Nat) (L : List (Option PV)) : Prop := L.length = n ∧ ls.size = n ∧ lv_wf ls ∧ ∀ (j : Nat) (u : PV), L[j]? = some (some u) → ls[j]? = some (.val (pw_tv w u))
def pw_ret (μ : PMI) (pc : Nat) (v : Option PV) : Prop := match v with
  | none => decode μ.2.1 pc = .ok (.return_, 1) ∧ μ.2.2.2 = none
  | some (.inl z) => decode μ.2.1 pc = .ok (.ireturn, 1) ∧ (μ.2.2.2 = some .int ∨ (μ.2.2.2 = some .boolean ∧ (z = 0 ∨ z = 1)))
  | some (.inr _) => False
def PW (sc : PSc) (μ : PMI) (d kc ks : Nat) (post : PPost) (pc : Nat) (L : List (Option PV)) (st : List PV) (Γ : List PTy) (I : PIm) (R : PRm) : Prop :=
  ∀ (w : PWd) (p : Program) (l : Launch) (e : Env) (RM : Room) (s : State) (m : MethodId) (args : Array Value) (below : List Frame) (meth : Method) (c : Code) (Q : State → Prop),
    pw_Cx sc μ d w p RM s m args meth c →
    (∀ (v : Option PV) (Γ' : List PTy) (I' : PIm) (R' : PRm) (H' : Heap) (locs' : List Loc) (cells' slots' : Nat) (pc' : Nat) (ls' : Array Slot), post v Γ' I' R' → pw_Rep w Γ' I' R' H' → va_S (pw_A w) s.heap H' locs' → cells' ≤ RM.cells → slots' ≤ RM.slots → pw_ret μ pc' v →
      W p l e RM s m args below meth c H' locs' cells' slots' Q (F0 m pc' ls' (v.toList.map (pw_tv w)))) →
    ∀ (H : Heap) (locs : List Loc) (cells slots : Nat) (ls : Array Slot), pw_Rep w Γ I R H → va_S (pw_A w) s.heap H locs → cells + kc ≤ RM.cells → slots + ks ≤ RM.slots → pw_L w ls μ.2.2.1 L →
      W p l e RM s m args below meth c H locs cells slots Q (F0 m pc ls (st.map (pw_tv w)))
def pw_rm (d kc ks : Nat) : Room := { frames := d + 1, cells := kc, slots := ks, locals := 40 * (d + 1) }
def pw_ws (μ : PMI) : List Cond := Cond.code μ.1 μ.2.1 μ.2.2.1 μ.2.2.2 :: pw_gw
def pw_pre (sc : PSc) (w : PWd) (av : List PV) (Γ : List PTy) (I : PIm) (R : PRm) : Array Value → State → Prop := va_Pc (av.map (pw_tv w)) (fun U => pw_WK w U ∧ pw_RO w sc U U.heap ∧ pw_Rep w Γ I R U.heap)
def pw_post (w : PWd) (post : PPost) : Array Value → State → Outcome → State → Prop := fun _ st o t => (∃ (v : Option PV) (Γ' : List PTy) (I' : PIm) (R' : PRm), o = .returned (v.map (pw_tv w)) ∧ post v Γ' I' R' ∧ pw_Rep w Γ' I' R' t.heap) ∧ va_F (pw_A w) st t
def PC (sc : PSc) (μ : PMI) (d kc ks : Nat) (av : List PV) (Γ : List PTy) (I : PIm) (R : PRm) (post : PPost) : Prop :=
  ∀ (w : PWd) (l : Launch), Met l μ.1 (pw_ws μ) (pw_rm d kc ks) (pw_pre sc w av Γ I R) (pw_post w post) kc ks (pw_A w)
theorem pw_tv_cat (w : PWd) (v : PV) : (pw_tv w v).category = 1 := by
  rcases v with z | (_ | p) <;> rfl
theorem pw_ad_lt {w : PWd} {p : Nat} (h : p < 100000) : pw_ad w p = w.1 + p := by
  unfold pw_ad
  rw [if_neg (by omega), if_neg (by omega)]
theorem pw_Rep.ad {w : PWd} {Γ : List PTy} {I : PIm} {R : PRm} {H : Heap} (h : pw_Rep w Γ I R H) {p : Nat} {T : PTy} (hp : Γ[p]? = some T) : pw_ad w p = w.1 + p :=
  pw_ad_lt (Nat.lt_of_lt_of_le (List.getElem?_eq_some_iff.mp hp).1 h.2.1)
theorem pw_one {D : va_G} {cl : List vw_C} {q : Nat × va_E} {H : Heap} (h : va_at D cl q H) : va_P D cl [q] H := by
  intro k x hk
  match k, hk with
  | 0, hk => cases hk; exact h
  | k + 1, hk => simp at hk
theorem pw_Rep.P {w : PWd} {Γ : List PTy} {I : PIm} {R : PRm} {H : Heap} (h : pw_Rep w Γ I R H) {p : Nat} {T : PTy} (hp : Γ[p]? = some T) : va_P w.2.2.2.1 vwCl [(pw_ad w p, pw_ce w T (I p) (R p))] H := by
  rw [h.ad hp]
  exact pw_one (h.2.2 p T hp)
theorem pw_Rep.store {w : PWd} {Γ : List PTy} {I I' : PIm} {R R' : PRm} {H H' : Heap} {p : Nat} {T : PTy} (h : pw_Rep w Γ I R H) (hp : Γ[p]? = some T) (he : va_at w.2.2.2.1 vwCl (pw_ad w p, pw_ce w T (I' p) (R' p)) H') (z : H'.size = H.size) (oq : ∀ q, q ≠ pw_ad w p → H'[q]? = H[q]?) (hI : ∀ q, q ≠ p → I' q = I q) (hR : ∀ q, q ≠ p → R' q = R q) : pw_Rep w Γ I' R' H' := by
  have ea := h.ad hp
  refine ⟨by rw [z]; exact h.1, h.2.1, fun q U hq => ?_⟩
  by_cases hqp : q = p
  · subst hqp
    rw [hq] at hp
    cases hp
    rw [← ea]
    exact he
  · rw [hI q hqp, hR q hqp]
    exact (h.2.2 q U hq).kept (oq _ (by rw [ea]; show w.1 + q ≠ w.1 + p; omega))
theorem pw_S0 {w : PWd} {sc : PSc} {s : State} (h : pw_RO w sc s s.heap) : ∀ q, s.heap.size ≤ q → pw_A w q := fun q hq => Nat.le_trans h.2.2.2.2 hq
theorem pw_inA {w : PWd} {Γ : List PTy} {I : PIm} {R : PRm} {H : Heap} (h : pw_Rep w Γ I R H) {p : Nat} {T : PTy} (hp : Γ[p]? = some T) : pw_A w (pw_ad w p) := by
  rw [h.ad hp]
  exact Nat.le_add_right _ _
/-! locals -/
theorem pw_L.get {w : PWd} {ls : Array Slot} {n : Nat} {L : List (Option PV)} (h : pw_L w ls n L) {j : Nat} {u : PV} (hj : L[j]? = some (some u)) : ls[j]? = some (.val (pw_tv w u)) := h.2.2.2 j u hj
def pw_pairs (w : PWd) (L : List (Option PV)) : List (Nat × Value) := (List.range L.length).filterMap (fun j => match L[j]? with | some (some u) => some (j, pw_tv w u) | _ => none)
theorem pw_pairs_mem {w : PWd} {L : List (Option PV)} {q : Nat × Value} : q ∈ pw_pairs w L ↔ ∃ u : PV, L[q.1]? = some (some u) ∧ q.2 = pw_tv w u := by
  unfold pw_pairs
  constructor
  · intro h
    obtain ⟨j, hj, hq⟩ := List.mem_filterMap.mp h
    split at hq
    next u hu => cases hq; exact ⟨u, hu, rfl⟩
    next => cases hq
  · rintro ⟨u, hu, e⟩
    refine List.mem_filterMap.mpr ⟨q.1, List.mem_range.mpr (List.getElem?_eq_some_iff.mp hu).1, ?_⟩
    rw [hu]
    show some (q.1, pw_tv w u) = some q
    rw [← e]
theorem pw_L.has {w : PWd} {ls : Array Slot} {n : Nat} {L : List (Option PV)} (h : pw_L w ls n L) : lv_has ls n (pw_pairs w L) := by
  refine ⟨h.2.1, h.2.2.1, fun q hq => ?_⟩
  obtain ⟨u, hu, e⟩ := pw_pairs_mem.mp hq
  rw [e]
  exact h.2.2.2 q.1 u hu
theorem pw_L.put {w : PWd} {ls : Array Slot} {n i : Nat} {L : List (Option PV)} {v : PV} (hL : L.length = n) (h : lv_has ls n ((i, pw_tv w v) :: (pw_pairs w L).filter (fun q => !(q.1 == i) && !(q.1 + 1 == i && q.2.category == 2)))) : pw_L w ls n (L.set i (some v)) := by
  refine ⟨by rw [List.length_set]; exact hL, h.1, h.2.1, fun j u hj => ?_⟩
  by_cases e : j = i
  · subst e
    have hlt : j < L.length := by
      have := (List.getElem?_eq_some_iff.mp hj).1
      rwa [List.length_set] at this
    rw [List.getElem?_set_self hlt] at hj
    cases hj
    exact h.2.2 (j, pw_tv w v) List.mem_cons_self
  · rw [List.getElem?_set_ne (fun q => e q.symm)] at hj
    refine h.2.2 (j, pw_tv w u) (List.mem_cons_of_mem _ (List.mem_filter.mpr ⟨pw_pairs_mem.mpr ⟨u, hj, rfl⟩, ?_⟩))
    simp [e, pw_tv_cat]
theorem pw_L.weak {w : PWd} {ls : Array Slot} {n : Nat} {L L' : List (Option PV)} (h : pw_L w ls n L) (hl : L'.length = L.length) (hs : ∀ (j : Nat) (u : PV), L'[j]? = some (some u) → L[j]? = some (some u)) : pw_L w ls n L' :=
  ⟨hl.trans h.1, h.2.1, h.2.2.1, fun j u hj => h.2.2.2 j u (hs j u hj)⟩
theorem pw_args_mem (w : PWd) : ∀ (av : List PV) (k j : Nat) (u : PV), av[j]? = some u → (k + j, pw_tv w u) ∈ lv_args k (av.map (pw_tv w))
  | [], k, j, u, h => by simp at h
  | a :: av, k, 0, u, h => by
    cases h
    exact List.mem_cons_self
  | a :: av, k, j + 1, u, h => by
    have hc : ¬ (pw_tv w a).category = 2 := by rw [pw_tv_cat]; decide
    show (k + (j + 1), pw_tv w u) ∈ (k, pw_tv w a) :: lv_args (if (pw_tv w a).category = 2 then k + 2 else k + 1) (av.map (pw_tv w))
    rw [if_neg hc]
    have := pw_args_mem w av (k + 1) j u h
    rw [show k + (j + 1) = k + 1 + j by omega]
    exact List.mem_cons_of_mem _ this
theorem pw_sl_len (w : PWd) : ∀ av : List PV, (lg_sl (av.map (pw_tv w))).length = av.length
  | [] => rfl
  | a :: av => by
    have hc : ¬ (pw_tv w a).category = 2 := by rw [pw_tv_cat]; decide
    have := pw_sl_len w av
    unfold lg_sl at this ⊢
    rw [List.map_cons, List.flatMap_cons, if_neg hc, List.length_append, this]
    simp; omega
def pw_L0 (av : List PV) (n : Nat) : List (Option PV) := av.map some ++ List.replicate (n - av.length) none
theorem pw_L.entry {w : PWd} {av : List PV} {n : Nat} (h : av.length ≤ n) : pw_L w ((lg_sl (av.map (pw_tv w)) ++ List.replicate (n - (lg_sl (av.map (pw_tv w))).length) Slot.unset).toArray) n (pw_L0 av n) := by
  have h1 := lv_entry (av.map (pw_tv w)) (n := n) (by rw [pw_sl_len]; exact h)
  refine ⟨?_, h1.1, h1.2.1, fun j u hj => ?_⟩
  · unfold pw_L0
    simp; omega
  · refine h1.2.2 (j, pw_tv w u) ?_
    have := pw_args_mem w av 0 j u ?_
    · rwa [Nat.zero_add] at this
    · unfold pw_L0 at hj
      by_cases hl : j < av.length
      · rw [List.getElem?_append_left (by simpa using hl), List.getElem?_map] at hj
        cases hk : av[j]? with
        | none => rw [hk] at hj; cases hj
        | some x => rw [hk] at hj; cases hj; rfl
      · rw [List.getElem?_append_right (by simpa using Nat.not_lt.mp hl)] at hj
        have := List.mem_of_getElem? hj
        have := (List.mem_replicate.mp this).2
        cases this
end PWCORE
end
section
section PWRULES
variable {sc : PSc} {μ : PMI} {d kc ks : Nat} {post : PPost} {pc : Nat} {L : List (Option PV)} {st : List PV} {Γ : List PTy} {I : PIm} {R : PRm}
abbrev Rg (x : Int) : Prop := -2147483648 ≤ x ∧ x ≤ 2147483647
theorem rg_toInt {x : Int} (h : Rg x) : (Int32.ofInt x).toInt = x := Int32.toInt_ofInt_of_le (by have := h.1; omega) (by have := h.2; omega)
theorem rg_of (x : Int32) : Rg x.toInt := ⟨by have := Int32.le_toInt x; omega, by have := Int32.toInt_lt x; omega⟩
theorem rg_lt {x y : Int} (hx : Rg x) (hy : Rg y) : Int32.ofInt x < Int32.ofInt y ↔ x < y := by rw [Int32.lt_iff_toInt_lt, rg_toInt hx, rg_toInt hy]
theorem rg_le {x y : Int} (hx : Rg x) (hy : Rg y) : Int32.ofInt x ≤ Int32.ofInt y ↔ x ≤ y := by rw [Int32.le_iff_toInt_le, rg_toInt hx, rg_toInt hy]
theorem rg_eq {x y : Int} (hx : Rg x) (hy : Rg y) : Int32.ofInt x = Int32.ofInt y ↔ x = y := by rw [← Int32.toInt_inj, rg_toInt hx, rg_toInt hy]
def pw_and (x y : Int) : Int := (Int32.ofInt x &&& Int32.ofInt y).toInt
def pw_or (x y : Int) : Int := (Int32.ofInt x ||| Int32.ofInt y).toInt
def pw_xor (x y : Int) : Int := (Int32.ofInt x ^^^ Int32.ofInt y).toInt
def pw_shl (x y : Int) : Int := (Int32.ofInt x <<< (Int32.ofInt y &&& 31)).toInt
def pw_shr (x y : Int) : Int := (Int32.ofInt x >>> (Int32.ofInt y &&& 31)).toInt
def pw_div (x y : Int) : Int := (Int32.ofInt x / Int32.ofInt y).toInt
def pw_rem (x y : Int) : Int := (Int32.ofInt x - Int32.ofInt x / Int32.ofInt y * Int32.ofInt y).toInt
def pw_ushr (x y : Int) : Int := ((Int32.ofInt x).toUInt32 >>> ((Int32.ofInt y).toUInt32 &&& Int32.toUInt32 31)).toInt32.toInt
def pw_up (I : PIm) (a : Nat) (i v : Int) : PIm := fun b j => if b = a ∧ j = i then v else I b j
def pw_upr (R : PRm) (a : Nat) (i : Int) (v : Option Nat) : PRm := fun b j => if b = a ∧ j = i then v else R b j
/-! constants, locals, stack -/
theorem PW.iconst {n : Int} (hd : decode μ.2.1 pc = .ok (.iconst n, 1)) (k : PW sc μ d kc ks post (pc + 1) L (.inl n :: st) Γ I R) : PW sc μ d kc ks post pc L st Γ I R := by
  intro w p l e RM s m args below meth c Q C fin H locs cells slots ls hR hS h1 h2 hl
  exact lv_iconst C.1 C.2.1 hd rfl (k w p l e RM s m args below meth c Q C fin H locs cells slots ls hR hS h1 h2 hl)
theorem PW.bipush {n : Int} (hd : decode μ.2.1 pc = .ok (.bipush n, 2)) (hn : (Int8.ofInt n).toInt32 = Int32.ofInt n) (k : PW sc μ d kc ks post (pc + 2) L (.inl n :: st) Γ I R) : PW sc μ d kc ks post pc L st Γ I R := by
  intro w p l e RM s m args below meth c Q C fin H locs cells slots ls hR hS h1 h2 hl
  exact lv_bipush C.1 C.2.1 hd hn (k w p l e RM s m args below meth c Q C fin H locs cells slots ls hR hS h1 h2 hl)
theorem PW.sipush {n : Int} (hd : decode μ.2.1 pc = .ok (.sipush n, 3)) (hn : (Int16.ofInt n).toInt32 = Int32.ofInt n) (k : PW sc μ d kc ks post (pc + 3) L (.inl n :: st) Γ I R) : PW sc μ d kc ks post pc L st Γ I R := by
  intro w p l e RM s m args below meth c Q C fin H locs cells slots ls hR hS h1 h2 hl
  exact lv_sipush C.1 C.2.1 hd hn (k w p l e RM s m args below meth c Q C fin H locs cells slots ls hR hS h1 h2 hl)
theorem PW.ldcw {idx : Nat} {v : Int32} {z : Int} (hd : decode μ.2.1 pc = .ok (.ldc_w idx, 3)) (hw : Jvm.Cond.constant μ.1.cls idx v ∈ pw_gw) (hz : Int32.ofInt z = v) (k : PW sc μ d kc ks post (pc + 3) L (.inl z :: st) Γ I R) : PW sc μ d kc ks post pc L st Γ I R := by
  intro w p l e RM s m args below meth c Q C fin H locs cells slots ls hR hS h1 h2 hl
  subst hz
  exact lv_ldcw C.1 C.2.1 C.2.2.2.1 (C.2.2.2.2.1 _ hw) hd (k w p l e RM s m args below meth c Q C fin H locs cells slots ls hR hS h1 h2 hl)
theorem PW.iload_n {j : Fin 4} {x : Int} (hd : decode μ.2.1 pc = .ok (.iload_n j, 1)) (hv : L[(j : Nat)]? = some (some (.inl x))) (k : PW sc μ d kc ks post (pc + 1) L (.inl x :: st) Γ I R) : PW sc μ d kc ks post pc L st Γ I R := by
  intro w p l e RM s m args below meth c Q C fin H locs cells slots ls hR hS h1 h2 hl
  exact lv_iload_n C.1 C.2.1 hd rfl (hl.get hv) (k w p l e RM s m args below meth c Q C fin H locs cells slots ls hR hS h1 h2 hl)
theorem PW.iload {j : Nat} {x : Int} (hd : decode μ.2.1 pc = .ok (.iload j, 2)) (hv : L[j]? = some (some (.inl x))) (k : PW sc μ d kc ks post (pc + 2) L (.inl x :: st) Γ I R) : PW sc μ d kc ks post pc L st Γ I R := by
  intro w p l e RM s m args below meth c Q C fin H locs cells slots ls hR hS h1 h2 hl
  exact lv_iload C.1 C.2.1 hd (hl.get hv) (k w p l e RM s m args below meth c Q C fin H locs cells slots ls hR hS h1 h2 hl)
theorem PW.aload_n {j : Fin 4} {x : Nat} (hd : decode μ.2.1 pc = .ok (.aload_n j, 1)) (hv : L[(j : Nat)]? = some (some (.inr (some x)))) (k : PW sc μ d kc ks post (pc + 1) L (.inr (some x) :: st) Γ I R) : PW sc μ d kc ks post pc L st Γ I R := by
  intro w p l e RM s m args below meth c Q C fin H locs cells slots ls hR hS h1 h2 hl
  exact lv_aload_n C.1 C.2.1 hd rfl (hl.get hv) (k w p l e RM s m args below meth c Q C fin H locs cells slots ls hR hS h1 h2 hl)
theorem PW.istore_n {j : Fin 4} {x : Int} (hd : decode μ.2.1 pc = .ok (.istore_n j, 1)) (hn : (j : Nat) < μ.2.2.1) (k : PW sc μ d kc ks post (pc + 1) (L.set (j : Nat) (some (.inl x))) st Γ I R) : PW sc μ d kc ks post pc L (.inl x :: st) Γ I R := by
  intro w p l e RM s m args below meth c Q C fin H locs cells slots ls hR hS h1 h2 hl
  exact lv_istore_n C.1 C.2.1 hd rfl hl.has hn rfl (fun ls' h' => k w p l e RM s m args below meth c Q C fin H locs cells slots ls' hR hS h1 h2 (pw_L.put (v := .inl x) hl.1 h'))
theorem PW.istore {j : Nat} {x : Int} (hd : decode μ.2.1 pc = .ok (.istore j, 2)) (hn : j < μ.2.2.1) (k : PW sc μ d kc ks post (pc + 2) (L.set j (some (.inl x))) st Γ I R) : PW sc μ d kc ks post pc L (.inl x :: st) Γ I R := by
  intro w p l e RM s m args below meth c Q C fin H locs cells slots ls hR hS h1 h2 hl
  exact lv_istore C.1 C.2.1 hd hl.has hn rfl (fun ls' h' => k w p l e RM s m args below meth c Q C fin H locs cells slots ls' hR hS h1 h2 (pw_L.put (v := .inl x) hl.1 h'))
theorem PW.astore_n {j : Fin 4} {x : Nat} (hd : decode μ.2.1 pc = .ok (.astore_n j, 1)) (hn : (j : Nat) < μ.2.2.1) (k : PW sc μ d kc ks post (pc + 1) (L.set (j : Nat) (some (.inr (some x)))) st Γ I R) : PW sc μ d kc ks post pc L (.inr (some x) :: st) Γ I R := by
  intro w p l e RM s m args below meth c Q C fin H locs cells slots ls hR hS h1 h2 hl
  exact lv_astore_n C.1 C.2.1 hd rfl hl.has hn rfl (fun ls' h' => k w p l e RM s m args below meth c Q C fin H locs cells slots ls' hR hS h1 h2 (pw_L.put (v := .inr (some x)) hl.1 h'))
theorem PW.iinc {j : Nat} {n x : Int} (hd : decode μ.2.1 pc = .ok (.iinc j n, 3)) (hv : L[j]? = some (some (.inl x))) (hn : j < μ.2.2.1) (k : PW sc μ d kc ks post (pc + 3) (L.set j (some (.inl (x + n)))) st Γ I R) : PW sc μ d kc ks post pc L st Γ I R := by
  intro w p l e RM s m args below meth c Q C fin H locs cells slots ls hR hS h1 h2 hl
  obtain ⟨q, hq⟩ := List.getElem?_of_mem (pw_pairs_mem (w := w) (q := (j, pw_tv w (.inl x))) |>.mpr ⟨.inl x, hv, rfl⟩)
  exact lv_iinc (x := Int32.ofInt x) (v := Int32.ofInt (x + n)) C.1 C.2.1 hd hl.has hq (by rw [Int32.ofInt_add]) hn rfl (fun ls' h' => k w p l e RM s m args below meth c Q C fin H locs cells slots ls' hR hS h1 h2 (pw_L.put (v := .inl (x + n)) hl.1 h'))
theorem PW.dup {v : PV} (hd : decode μ.2.1 pc = .ok (.dup, 1)) (k : PW sc μ d kc ks post (pc + 1) L (v :: v :: st) Γ I R) : PW sc μ d kc ks post pc L (v :: st) Γ I R := by
  intro w p l e RM s m args below meth c Q C fin H locs cells slots ls hR hS h1 h2 hl
  exact lv_dup C.1 C.2.1 hd (pw_tv_cat w v) (k w p l e RM s m args below meth c Q C fin H locs cells slots ls hR hS h1 h2 hl)
theorem PW.dup2 {v u : PV} (hd : decode μ.2.1 pc = .ok (.dup2, 1)) (k : PW sc μ d kc ks post (pc + 1) L (v :: u :: v :: u :: st) Γ I R) : PW sc μ d kc ks post pc L (v :: u :: st) Γ I R := by
  intro w p l e RM s m args below meth c Q C fin H locs cells slots ls hR hS h1 h2 hl
  exact lv_dup2_11 C.1 C.2.1 hd (pw_tv_cat w v) (pw_tv_cat w u) (k w p l e RM s m args below meth c Q C fin H locs cells slots ls hR hS h1 h2 hl)
theorem PW.pop {v : PV} (hd : decode μ.2.1 pc = .ok (.pop, 1)) (k : PW sc μ d kc ks post (pc + 1) L st Γ I R) : PW sc μ d kc ks post pc L (v :: st) Γ I R := by
  intro w p l e RM s m args below meth c Q C fin H locs cells slots ls hR hS h1 h2 hl
  exact lv_pop C.1 C.2.1 hd (pw_tv_cat w v) (k w p l e RM s m args below meth c Q C fin H locs cells slots ls hR hS h1 h2 hl)
theorem PW.weak {L' : List (Option PV)} (hl' : L'.length = L.length) (hs : ∀ (j : Nat) (u : PV), L'[j]? = some (some u) → L[j]? = some (some u)) (k : PW sc μ d kc ks post pc L' st Γ I R) : PW sc μ d kc ks post pc L st Γ I R := by
  intro w p l e RM s m args below meth c Q C fin H locs cells slots ls hR hS h1 h2 hl
  exact k w p l e RM s m args below meth c Q C fin H locs cells slots ls hR hS h1 h2 (hl.weak hl' hs)
theorem PW.goto {off : Int} {tgt : Nat} (hd : decode μ.2.1 pc = .ok (.goto off, 3)) (ht : (pc : Int) + off = (tgt : Int)) (k : PW sc μ d kc ks post tgt L st Γ I R) : PW sc μ d kc ks post pc L st Γ I R := by
  intro w p l e RM s m args below meth c Q C fin H locs cells slots ls hR hS h1 h2 hl
  exact lv_goto C.1 C.2.1 hd ht (k w p l e RM s m args below meth c Q C fin H locs cells slots ls hR hS h1 h2 hl)
theorem PW.iadd {x y : Int} (hd : decode μ.2.1 pc = .ok (.iadd, 1)) (k : PW sc μ d kc ks post (pc + 1) L (.inl (x + y) :: st) Γ I R) : PW sc μ d kc ks post pc L (.inl y :: .inl x :: st) Γ I R := by
  intro w p l e RM s m args below meth c Q C fin H locs cells slots ls hR hS h1 h2 hl
  have k' := k w p l e RM s m args below meth c Q C fin H locs cells slots ls hR hS h1 h2 hl
  rw [List.map_cons, show pw_tv w (.inl (x + y)) = .int (Int32.ofInt (x + y)) from rfl, Int32.ofInt_add] at k'
  exact lv_iadd C.1 C.2.1 hd k'
theorem PW.isub {x y : Int} (hd : decode μ.2.1 pc = .ok (.isub, 1)) (k : PW sc μ d kc ks post (pc + 1) L (.inl (x - y) :: st) Γ I R) : PW sc μ d kc ks post pc L (.inl y :: .inl x :: st) Γ I R := by
  intro w p l e RM s m args below meth c Q C fin H locs cells slots ls hR hS h1 h2 hl
  have k' := k w p l e RM s m args below meth c Q C fin H locs cells slots ls hR hS h1 h2 hl
  rw [List.map_cons, show pw_tv w (.inl (x - y)) = .int (Int32.ofInt (x - y)) from rfl, Int32.ofInt_sub] at k'
  exact lv_isub C.1 C.2.1 hd k'
theorem PW.imul {x y : Int} (hd : decode μ.2.1 pc = .ok (.imul, 1)) (k : PW sc μ d kc ks post (pc + 1) L (.inl (x * y) :: st) Γ I R) : PW sc μ d kc ks post pc L (.inl y :: .inl x :: st) Γ I R := by
  intro w p l e RM s m args below meth c Q C fin H locs cells slots ls hR hS h1 h2 hl
  have k' := k w p l e RM s m args below meth c Q C fin H locs cells slots ls hR hS h1 h2 hl
  rw [List.map_cons, show pw_tv w (.inl (x * y)) = .int (Int32.ofInt (x * y)) from rfl, Int32.ofInt_mul] at k'
  exact lv_imul C.1 C.2.1 hd k'
theorem PW.iand {x y : Int} (hd : decode μ.2.1 pc = .ok (.iand, 1)) (k : PW sc μ d kc ks post (pc + 1) L (.inl (pw_and x y) :: st) Γ I R) : PW sc μ d kc ks post pc L (.inl y :: .inl x :: st) Γ I R := by
  intro w p l e RM s m args below meth c Q C fin H locs cells slots ls hR hS h1 h2 hl
  have k' := k w p l e RM s m args below meth c Q C fin H locs cells slots ls hR hS h1 h2 hl
  rw [List.map_cons, show pw_tv w (.inl (pw_and x y)) = .int (Int32.ofInt (pw_and x y)) from rfl, pw_and, Int32.ofInt_toInt] at k'
  exact lv_iand C.1 C.2.1 hd k'
theorem PW.ior {x y : Int} (hd : decode μ.2.1 pc = .ok (.ior, 1)) (k : PW sc μ d kc ks post (pc + 1) L (.inl (pw_or x y) :: st) Γ I R) : PW sc μ d kc ks post pc L (.inl y :: .inl x :: st) Γ I R := by
  intro w p l e RM s m args below meth c Q C fin H locs cells slots ls hR hS h1 h2 hl
  have k' := k w p l e RM s m args below meth c Q C fin H locs cells slots ls hR hS h1 h2 hl
  rw [List.map_cons, show pw_tv w (.inl (pw_or x y)) = .int (Int32.ofInt (pw_or x y)) from rfl, pw_or, Int32.ofInt_toInt] at k'
  exact lv_ior C.1 C.2.1 hd k'
theorem PW.ixor {x y : Int} (hd : decode μ.2.1 pc = .ok (.ixor, 1)) (k : PW sc μ d kc ks post (pc + 1) L (.inl (pw_xor x y) :: st) Γ I R) : PW sc μ d kc ks post pc L (.inl y :: .inl x :: st) Γ I R := by
  intro w p l e RM s m args below meth c Q C fin H locs cells slots ls hR hS h1 h2 hl
  have k' := k w p l e RM s m args below meth c Q C fin H locs cells slots ls hR hS h1 h2 hl
  rw [List.map_cons, show pw_tv w (.inl (pw_xor x y)) = .int (Int32.ofInt (pw_xor x y)) from rfl, pw_xor, Int32.ofInt_toInt] at k'
  exact lv_ixor C.1 C.2.1 hd k'
theorem PW.ishl {x y : Int} (hd : decode μ.2.1 pc = .ok (.ishl, 1)) (k : PW sc μ d kc ks post (pc + 1) L (.inl (pw_shl x y) :: st) Γ I R) : PW sc μ d kc ks post pc L (.inl y :: .inl x :: st) Γ I R := by
  intro w p l e RM s m args below meth c Q C fin H locs cells slots ls hR hS h1 h2 hl
  have k' := k w p l e RM s m args below meth c Q C fin H locs cells slots ls hR hS h1 h2 hl
  rw [List.map_cons, show pw_tv w (.inl (pw_shl x y)) = .int (Int32.ofInt (pw_shl x y)) from rfl, pw_shl, Int32.ofInt_toInt] at k'
  exact lv_ishl C.1 C.2.1 hd k'
theorem PW.ishr {x y : Int} (hd : decode μ.2.1 pc = .ok (.ishr, 1)) (k : PW sc μ d kc ks post (pc + 1) L (.inl (pw_shr x y) :: st) Γ I R) : PW sc μ d kc ks post pc L (.inl y :: .inl x :: st) Γ I R := by
  intro w p l e RM s m args below meth c Q C fin H locs cells slots ls hR hS h1 h2 hl
  have k' := k w p l e RM s m args below meth c Q C fin H locs cells slots ls hR hS h1 h2 hl
  rw [List.map_cons, show pw_tv w (.inl (pw_shr x y)) = .int (Int32.ofInt (pw_shr x y)) from rfl, pw_shr, Int32.ofInt_toInt] at k'
  exact lv_ishr C.1 C.2.1 hd k'
theorem PW.idiv {x y : Int} (hd : decode μ.2.1 pc = .ok (.idiv, 1)) (hy : Rg y) (h0 : y ≠ 0) (k : PW sc μ d kc ks post (pc + 1) L (.inl (pw_div x y) :: st) Γ I R) : PW sc μ d kc ks post pc L (.inl y :: .inl x :: st) Γ I R := by
  intro w p l e RM s m args below meth c Q C fin H locs cells slots ls hR hS h1 h2 hl
  have k' := k w p l e RM s m args below meth c Q C fin H locs cells slots ls hR hS h1 h2 hl
  rw [List.map_cons, show pw_tv w (.inl (pw_div x y)) = .int (Int32.ofInt (pw_div x y)) from rfl, pw_div, Int32.ofInt_toInt] at k'
  exact lv_idiv C.1 C.2.1 hd (fun h => h0 ((rg_eq hy (by decide)).mp h)) k'
theorem PW.irem {x y : Int} (hd : decode μ.2.1 pc = .ok (.irem, 1)) (hy : Rg y) (h0 : y ≠ 0) (k : PW sc μ d kc ks post (pc + 1) L (.inl (pw_rem x y) :: st) Γ I R) : PW sc μ d kc ks post pc L (.inl y :: .inl x :: st) Γ I R := by
  intro w p l e RM s m args below meth c Q C fin H locs cells slots ls hR hS h1 h2 hl
  have k' := k w p l e RM s m args below meth c Q C fin H locs cells slots ls hR hS h1 h2 hl
  rw [List.map_cons, show pw_tv w (.inl (pw_rem x y)) = .int (Int32.ofInt (pw_rem x y)) from rfl, pw_rem, Int32.ofInt_toInt] at k'
  exact lv_irem C.1 C.2.1 hd (fun h => h0 ((rg_eq hy (by decide)).mp h)) k'
theorem PW.iushr {x y : Int} (hd : decode μ.2.1 pc = .ok (.iushr, 1)) (k : PW sc μ d kc ks post (pc + 1) L (.inl (pw_ushr x y) :: st) Γ I R) : PW sc μ d kc ks post pc L (.inl y :: .inl x :: st) Γ I R := by
  intro w p l e RM s m args below meth c Q C fin H locs cells slots ls hR hS h1 h2 hl
  have k' := k w p l e RM s m args below meth c Q C fin H locs cells slots ls hR hS h1 h2 hl
  rw [List.map_cons, show pw_tv w (.inl (pw_ushr x y)) = .int (Int32.ofInt (pw_ushr x y)) from rfl, pw_ushr, Int32.ofInt_toInt] at k'
  exact lv_iushr C.1 C.2.1 hd rfl k'
theorem PW.icmp_eq {x y : Int} {off : Int} {tgt : Nat} (hd : decode μ.2.1 pc = .ok (.if_icmp .eq off, 3)) (ht : (pc : Int) + off = (tgt : Int)) (hx : Rg x) (hy : Rg y) (kt : x = y → PW sc μ d kc ks post tgt L st Γ I R) (kf : ¬ x = y → PW sc μ d kc ks post (pc + 3) L st Γ I R) : PW sc μ d kc ks post pc L (.inl y :: .inl x :: st) Γ I R := by
  intro w p l e RM s m args below meth c Q C fin H locs cells slots ls hR hS h1 h2 hl
  exact lv_icmp_eq C.1 C.2.1 hd ht (fun h => kt ((rg_eq hx hy).mp h) w p l e RM s m args below meth c Q C fin H locs cells slots ls hR hS h1 h2 hl) (fun h => kf (fun q => h ((rg_eq hx hy).mpr q)) w p l e RM s m args below meth c Q C fin H locs cells slots ls hR hS h1 h2 hl)
theorem PW.if_eq {x : Int} {off : Int} {tgt : Nat} (hd : decode μ.2.1 pc = .ok (.ifCond .eq off, 3)) (ht : (pc : Int) + off = (tgt : Int)) (hx : Rg x) (kt : x = 0 → PW sc μ d kc ks post tgt L st Γ I R) (kf : ¬ x = 0 → PW sc μ d kc ks post (pc + 3) L st Γ I R) : PW sc μ d kc ks post pc L (.inl x :: st) Γ I R := by
  intro w p l e RM s m args below meth c Q C fin H locs cells slots ls hR hS h1 h2 hl
  have hy : Rg 0 := by decide
  exact lv_if_eq C.1 C.2.1 hd ht (fun h => kt ((rg_eq hx hy).mp h) w p l e RM s m args below meth c Q C fin H locs cells slots ls hR hS h1 h2 hl) (fun h => kf (fun q => h ((rg_eq hx hy).mpr q)) w p l e RM s m args below meth c Q C fin H locs cells slots ls hR hS h1 h2 hl)
theorem PW.icmp_ne {x y : Int} {off : Int} {tgt : Nat} (hd : decode μ.2.1 pc = .ok (.if_icmp .ne off, 3)) (ht : (pc : Int) + off = (tgt : Int)) (hx : Rg x) (hy : Rg y) (kt : ¬ x = y → PW sc μ d kc ks post tgt L st Γ I R) (kf : x = y → PW sc μ d kc ks post (pc + 3) L st Γ I R) : PW sc μ d kc ks post pc L (.inl y :: .inl x :: st) Γ I R := by
  intro w p l e RM s m args below meth c Q C fin H locs cells slots ls hR hS h1 h2 hl
  exact lv_icmp_ne C.1 C.2.1 hd ht (fun h => kt (fun q => h ((rg_eq hx hy).mpr q)) w p l e RM s m args below meth c Q C fin H locs cells slots ls hR hS h1 h2 hl) (fun h => kf ((rg_eq hx hy).mp h) w p l e RM s m args below meth c Q C fin H locs cells slots ls hR hS h1 h2 hl)
theorem PW.if_ne {x : Int} {off : Int} {tgt : Nat} (hd : decode μ.2.1 pc = .ok (.ifCond .ne off, 3)) (ht : (pc : Int) + off = (tgt : Int)) (hx : Rg x) (kt : ¬ x = 0 → PW sc μ d kc ks post tgt L st Γ I R) (kf : x = 0 → PW sc μ d kc ks post (pc + 3) L st Γ I R) : PW sc μ d kc ks post pc L (.inl x :: st) Γ I R := by
  intro w p l e RM s m args below meth c Q C fin H locs cells slots ls hR hS h1 h2 hl
  have hy : Rg 0 := by decide
  exact lv_if_ne C.1 C.2.1 hd ht (fun h => kt (fun q => h ((rg_eq hx hy).mpr q)) w p l e RM s m args below meth c Q C fin H locs cells slots ls hR hS h1 h2 hl) (fun h => kf ((rg_eq hx hy).mp h) w p l e RM s m args below meth c Q C fin H locs cells slots ls hR hS h1 h2 hl)
theorem PW.icmp_lt {x y : Int} {off : Int} {tgt : Nat} (hd : decode μ.2.1 pc = .ok (.if_icmp .lt off, 3)) (ht : (pc : Int) + off = (tgt : Int)) (hx : Rg x) (hy : Rg y) (kt : x < y → PW sc μ d kc ks post tgt L st Γ I R) (kf : ¬ x < y → PW sc μ d kc ks post (pc + 3) L st Γ I R) : PW sc μ d kc ks post pc L (.inl y :: .inl x :: st) Γ I R := by
  intro w p l e RM s m args below meth c Q C fin H locs cells slots ls hR hS h1 h2 hl
  exact lv_icmp_lt C.1 C.2.1 hd ht (fun h => kt ((rg_lt hx hy).mp h) w p l e RM s m args below meth c Q C fin H locs cells slots ls hR hS h1 h2 hl) (fun h => kf (fun q => h ((rg_lt hx hy).mpr q)) w p l e RM s m args below meth c Q C fin H locs cells slots ls hR hS h1 h2 hl)
theorem PW.if_lt {x : Int} {off : Int} {tgt : Nat} (hd : decode μ.2.1 pc = .ok (.ifCond .lt off, 3)) (ht : (pc : Int) + off = (tgt : Int)) (hx : Rg x) (kt : x < 0 → PW sc μ d kc ks post tgt L st Γ I R) (kf : ¬ x < 0 → PW sc μ d kc ks post (pc + 3) L st Γ I R) : PW sc μ d kc ks post pc L (.inl x :: st) Γ I R := by
  intro w p l e RM s m args below meth c Q C fin H locs cells slots ls hR hS h1 h2 hl
  have hy : Rg 0 := by decide
  exact lv_if_lt C.1 C.2.1 hd ht (fun h => kt ((rg_lt hx hy).mp h) w p l e RM s m args below meth c Q C fin H locs cells slots ls hR hS h1 h2 hl) (fun h => kf (fun q => h ((rg_lt hx hy).mpr q)) w p l e RM s m args below meth c Q C fin H locs cells slots ls hR hS h1 h2 hl)
theorem PW.icmp_ge {x y : Int} {off : Int} {tgt : Nat} (hd : decode μ.2.1 pc = .ok (.if_icmp .ge off, 3)) (ht : (pc : Int) + off = (tgt : Int)) (hx : Rg x) (hy : Rg y) (kt : y ≤ x → PW sc μ d kc ks post tgt L st Γ I R) (kf : ¬ y ≤ x → PW sc μ d kc ks post (pc + 3) L st Γ I R) : PW sc μ d kc ks post pc L (.inl y :: .inl x :: st) Γ I R := by
  intro w p l e RM s m args below meth c Q C fin H locs cells slots ls hR hS h1 h2 hl
  exact lv_icmp_ge C.1 C.2.1 hd ht (fun h => kt ((rg_le hy hx).mp h) w p l e RM s m args below meth c Q C fin H locs cells slots ls hR hS h1 h2 hl) (fun h => kf (fun q => h ((rg_le hy hx).mpr q)) w p l e RM s m args below meth c Q C fin H locs cells slots ls hR hS h1 h2 hl)
theorem PW.if_ge {x : Int} {off : Int} {tgt : Nat} (hd : decode μ.2.1 pc = .ok (.ifCond .ge off, 3)) (ht : (pc : Int) + off = (tgt : Int)) (hx : Rg x) (kt : 0 ≤ x → PW sc μ d kc ks post tgt L st Γ I R) (kf : ¬ 0 ≤ x → PW sc μ d kc ks post (pc + 3) L st Γ I R) : PW sc μ d kc ks post pc L (.inl x :: st) Γ I R := by
  intro w p l e RM s m args below meth c Q C fin H locs cells slots ls hR hS h1 h2 hl
  have hy : Rg 0 := by decide
  exact lv_if_ge C.1 C.2.1 hd ht (fun h => kt ((rg_le hy hx).mp h) w p l e RM s m args below meth c Q C fin H locs cells slots ls hR hS h1 h2 hl) (fun h => kf (fun q => h ((rg_le hy hx).mpr q)) w p l e RM s m args below meth c Q C fin H locs cells slots ls hR hS h1 h2 hl)
theorem PW.icmp_gt {x y : Int} {off : Int} {tgt : Nat} (hd : decode μ.2.1 pc = .ok (.if_icmp .gt off, 3)) (ht : (pc : Int) + off = (tgt : Int)) (hx : Rg x) (hy : Rg y) (kt : y < x → PW sc μ d kc ks post tgt L st Γ I R) (kf : ¬ y < x → PW sc μ d kc ks post (pc + 3) L st Γ I R) : PW sc μ d kc ks post pc L (.inl y :: .inl x :: st) Γ I R := by
  intro w p l e RM s m args below meth c Q C fin H locs cells slots ls hR hS h1 h2 hl
  exact lv_icmp_gt C.1 C.2.1 hd ht (fun h => kt ((rg_lt hy hx).mp h) w p l e RM s m args below meth c Q C fin H locs cells slots ls hR hS h1 h2 hl) (fun h => kf (fun q => h ((rg_lt hy hx).mpr q)) w p l e RM s m args below meth c Q C fin H locs cells slots ls hR hS h1 h2 hl)
theorem PW.if_gt {x : Int} {off : Int} {tgt : Nat} (hd : decode μ.2.1 pc = .ok (.ifCond .gt off, 3)) (ht : (pc : Int) + off = (tgt : Int)) (hx : Rg x) (kt : 0 < x → PW sc μ d kc ks post tgt L st Γ I R) (kf : ¬ 0 < x → PW sc μ d kc ks post (pc + 3) L st Γ I R) : PW sc μ d kc ks post pc L (.inl x :: st) Γ I R := by
  intro w p l e RM s m args below meth c Q C fin H locs cells slots ls hR hS h1 h2 hl
  have hy : Rg 0 := by decide
  exact lv_if_gt C.1 C.2.1 hd ht (fun h => kt ((rg_lt hy hx).mp h) w p l e RM s m args below meth c Q C fin H locs cells slots ls hR hS h1 h2 hl) (fun h => kf (fun q => h ((rg_lt hy hx).mpr q)) w p l e RM s m args below meth c Q C fin H locs cells slots ls hR hS h1 h2 hl)
theorem PW.icmp_le {x y : Int} {off : Int} {tgt : Nat} (hd : decode μ.2.1 pc = .ok (.if_icmp .le off, 3)) (ht : (pc : Int) + off = (tgt : Int)) (hx : Rg x) (hy : Rg y) (kt : x ≤ y → PW sc μ d kc ks post tgt L st Γ I R) (kf : ¬ x ≤ y → PW sc μ d kc ks post (pc + 3) L st Γ I R) : PW sc μ d kc ks post pc L (.inl y :: .inl x :: st) Γ I R := by
  intro w p l e RM s m args below meth c Q C fin H locs cells slots ls hR hS h1 h2 hl
  exact lv_icmp_le C.1 C.2.1 hd ht (fun h => kt ((rg_le hx hy).mp h) w p l e RM s m args below meth c Q C fin H locs cells slots ls hR hS h1 h2 hl) (fun h => kf (fun q => h ((rg_le hx hy).mpr q)) w p l e RM s m args below meth c Q C fin H locs cells slots ls hR hS h1 h2 hl)
theorem PW.if_le {x : Int} {off : Int} {tgt : Nat} (hd : decode μ.2.1 pc = .ok (.ifCond .le off, 3)) (ht : (pc : Int) + off = (tgt : Int)) (hx : Rg x) (kt : x ≤ 0 → PW sc μ d kc ks post tgt L st Γ I R) (kf : ¬ x ≤ 0 → PW sc μ d kc ks post (pc + 3) L st Γ I R) : PW sc μ d kc ks post pc L (.inl x :: st) Γ I R := by
  intro w p l e RM s m args below meth c Q C fin H locs cells slots ls hR hS h1 h2 hl
  have hy : Rg 0 := by decide
  exact lv_if_le C.1 C.2.1 hd ht (fun h => kt ((rg_le hx hy).mp h) w p l e RM s m args below meth c Q C fin H locs cells slots ls hR hS h1 h2 hl) (fun h => kf (fun q => h ((rg_le hx hy).mpr q)) w p l e RM s m args below meth c Q C fin H locs cells slots ls hR hS h1 h2 hl)
theorem PW.ifnull_no {a : Nat} {off : Int} (hd : decode μ.2.1 pc = .ok (.ifnull off, 3)) (k : PW sc μ d kc ks post (pc + 3) L st Γ I R) : PW sc μ d kc ks post pc L (.inr (some a) :: st) Γ I R := by
  intro w p l e RM s m args below meth c Q C fin H locs cells slots ls hR hS h1 h2 hl
  exact lv_ifnull C.1 C.2.1 hd (k w p l e RM s m args below meth c Q C fin H locs cells slots ls hR hS h1 h2 hl)
theorem PW.ifnull_yes {off : Int} {tgt : Nat} (hd : decode μ.2.1 pc = .ok (.ifnull off, 3)) (ht : (pc : Int) + off = (tgt : Int)) (k : PW sc μ d kc ks post tgt L st Γ I R) : PW sc μ d kc ks post pc L (.inr none :: st) Γ I R := by
  intro w p l e RM s m args below meth c Q C fin H locs cells slots ls hR hS h1 h2 hl
  exact lv_ifnullN C.1 C.2.1 hd ht (k w p l e RM s m args below meth c Q C fin H locs cells slots ls hR hS h1 h2 hl)
theorem PW.lookup {dflt : Int} {ps : Array (Int × Int)} {len : Nat} {x off : Int} {tgt : Nat} (hd : decode μ.2.1 pc = .ok (.lookupswitch dflt ps, len)) (hp : (ps.toList.zip (ps.toList.drop 1)).all (fun (a, next) => a.1 < next.1) = true) (hx : Rg x) (ho : Op.lookupswitch.offset ps.toList dflt x = off) (ht : (pc : Int) + off = (tgt : Int)) (k : PW sc μ d kc ks post tgt L st Γ I R) : PW sc μ d kc ks post pc L (.inl x :: st) Γ I R := by
  intro w p l e RM s m args below meth c Q C fin H locs cells slots ls hR hS h1 h2 hl
  exact lv_lookup C.1 C.2.1 hd hp (by rw [rg_toInt hx]; exact ho) ht (k w p l e RM s m args below meth c Q C fin H locs cells slots ls hR hS h1 h2 hl)
theorem PW.tableOut {dflt lo hi : Int} {offs : Array Int} {len : Nat} {x : Int} {tgt : Nat} (hd : decode μ.2.1 pc = .ok (.tableswitch dflt lo hi offs, len)) (hx : Rg x) (h : x < lo ∨ hi < x) (ht : (pc : Int) + dflt = (tgt : Int)) (k : PW sc μ d kc ks post tgt L st Γ I R) : PW sc μ d kc ks post pc L (.inl x :: st) Γ I R := by
  intro w p l e RM s m args below meth c Q C fin H locs cells slots ls hR hS h1 h2 hl
  exact lv_tableOut C.1 C.2.1 hd (by rw [rg_toInt hx]; exact h) ht (k w p l e RM s m args below meth c Q C fin H locs cells slots ls hR hS h1 h2 hl)
theorem PW.tableIn {dflt lo hi : Int} {offs : Array Int} {len : Nat} {x off : Int} {tgt : Nat} (hd : decode μ.2.1 pc = .ok (.tableswitch dflt lo hi offs, len)) (hx : Rg x) (g1 : ¬ x < lo) (g2 : ¬ hi < x) (ho : offs[(x - lo).toNat]? = some off) (ht : (pc : Int) + off = (tgt : Int)) (k : PW sc μ d kc ks post tgt L st Γ I R) : PW sc μ d kc ks post pc L (.inl x :: st) Γ I R := by
  intro w p l e RM s m args below meth c Q C fin H locs cells slots ls hR hS h1 h2 hl
  exact lv_tableIn C.1 C.2.1 hd (by rw [rg_toInt hx]; exact g1) (by rw [rg_toInt hx]; exact g2) (by rw [rg_toInt hx]; exact ho) ht (k w p l e RM s m args below meth c Q C fin H locs cells slots ls hR hS h1 h2 hl)
theorem PW.ireturn {z : Int} (hd : decode μ.2.1 pc = .ok (.ireturn, 1)) (hr : μ.2.2.2 = some .int) (hp : post (some (.inl z)) Γ I R) : PW sc μ d kc ks post pc L [.inl z] Γ I R := by
  intro w p l e RM s m args below meth c Q C fin H locs cells slots ls hR hS h1 h2 hl
  exact fin (some (.inl z)) Γ I R H locs cells slots pc ls hp hR hS (by omega) (by omega) ⟨hd, Or.inl hr⟩
theorem PW.zreturn {z : Int} (hd : decode μ.2.1 pc = .ok (.ireturn, 1)) (hr : μ.2.2.2 = some .boolean) (hz : z = 0 ∨ z = 1) (hp : post (some (.inl z)) Γ I R) : PW sc μ d kc ks post pc L [.inl z] Γ I R := by
  intro w p l e RM s m args below meth c Q C fin H locs cells slots ls hR hS h1 h2 hl
  exact fin (some (.inl z)) Γ I R H locs cells slots pc ls hp hR hS (by omega) (by omega) ⟨hd, Or.inr ⟨hr, hz⟩⟩
theorem PW.vreturn (hd : decode μ.2.1 pc = .ok (.return_, 1)) (hr : μ.2.2.2 = none) (hp : post none Γ I R) : PW sc μ d kc ks post pc L [] Γ I R := by
  intro w p l e RM s m args below meth c Q C fin H locs cells slots ls hR hS h1 h2 hl
  exact fin none Γ I R H locs cells slots pc ls hp hR hS (by omega) (by omega) ⟨hd, hr⟩
end PWRULES
end
section
section PWHEAP
variable {sc : PSc} {μ : PMI} {d kc ks : Nat} {post : PPost} {pc : Nat} {L : List (Option PV)} {st : List PV} {Γ : List PTy} {I : PIm} {R : PRm}
def pw_kind : FieldType → Nat
  | .int => 0
  | .boolean => 1
  | .object _ => 2
  | .array _ => 2
  | _ => 3
theorem pw_kind_ref {t : FieldType} (h : pw_kind t = 2) : pw_isref t = true := by
  cases t <;> first | rfl | (exact absurd h (by decide))
theorem pw_kind_int {t : FieldType} (h : pw_kind t ≤ 1) : pw_isref t = false := by
  cases t <;> first | rfl | (exact absurd h (by show ¬ 2 ≤ 1; decide))
def pw_CL (ci : Nat) (C : String) (T : u_T) : Prop := vwCl[ci]? = some (C, T, pw_fn ci) ∧ (∀ x ∈ u_ws C T (pw_fn ci), x ∈ pw_gw) ∧ (∀ k, k < pw_fn ci → parseFieldDescriptor (T k).2.2.1 = some (pw_ft ci k)) ∧ (∀ a, a < pw_fn ci → ∀ b, b < pw_fn ci → a ≠ b → (T a).2.1 ≠ (T b).2.1)
def pw_FL (own : String) (idx ci : Nat) (kz : Int) (kind : Nat) (fn : Bool) : Prop := ∃ (C : String) (T : u_T) (k : Nat), pw_CL ci C T ∧ k < pw_fn ci ∧ (k : Int) = kz ∧ pw_kind (pw_ft ci k) = kind ∧ (T k).2.2.2 = fn ∧ (T k).1 = C ∧ Cond.fieldLink own idx C (T k).2.1 (T k).2.2.1 ∈ pw_gw
theorem pw_fs_get {w : PWd} {ci k : Nat} {i : Int → Int} {r : Int → Option Nat} (h : k < pw_fn ci) : (pw_fs w ci i r)[k]? = some (pw_fv w ci i r k) := by
  unfold pw_fs
  rw [List.getElem?_map, List.getElem?_range h]
  rfl
theorem pw_fs_len {w : PWd} {ci : Nat} {i : Int → Int} {r : Int → Option Nat} : (pw_fs w ci i r).length = pw_fn ci := by
  simp [pw_fs]
theorem pw_fs_set {w : PWd} {ci k : Nat} {i i' : Int → Int} {r r' : Int → Option Nat} {v : Value} (h : k < pw_fn ci) (hv : pw_fv w ci i' r' k = v) (ho : ∀ j, j ≠ k → pw_fv w ci i' r' j = pw_fv w ci i r j) : (pw_fs w ci i r).set k v = pw_fs w ci i' r' := by
  apply List.ext_getElem?
  intro j
  by_cases hj : j < pw_fn ci
  · by_cases e : j = k
    · subst e
      rw [List.getElem?_set_self (by rw [pw_fs_len]; exact h), pw_fs_get hj, hv]
    · rw [List.getElem?_set_ne (fun q => e q.symm), pw_fs_get hj, pw_fs_get hj, ho j e]
  · rw [List.getElem?_eq_none (by rw [List.length_set, pw_fs_len]; omega), List.getElem?_eq_none (by rw [pw_fs_len]; omega)]
theorem PW.geti {idx ci a : Nat} {kz : Int} {kind : Nat} {fn : Bool} (hd : decode μ.2.1 pc = .ok (.getfield idx, 3)) (hf : pw_FL μ.1.cls idx ci kz kind fn) (hk : kind ≤ 1) (hΓ : Γ[a]? = some (.inl ci)) (k : PW sc μ d kc ks post (pc + 3) L (.inl (I a kz) :: st) Γ I R) : PW sc μ d kc ks post pc L (.inr (some a) :: st) Γ I R := by
  intro w p l e RM s m args below meth c Q C fin H locs cells slots ls hR hS h1 h2 hl
  obtain ⟨C', T, kf, ⟨hc, hin, hty, hnm⟩, hlt, rfl, hkd, hfi, hdec, hlk⟩ := hf
  refine va_get C.1 C.2.1 (Ts := pw_gw) (C := C') (T := T) (N := pw_fn ci) (ci := ci) (ref := C') C.2.2.2.2.1 hin C.2.2.2.1 C.2.2.2.2.2.2.2.1.1 (hR.P hΓ) 0 rfl hc kf hlt (C.2.2.2.2.1 _ hlk) (fun x h => by rw [hdec] at h; exact h) (v := pw_tv w (.inl (I a kf))) ?_ hd (k w p l e RM s m args below meth c Q C fin H locs cells slots ls hR hS h1 h2 hl)
  rw [pw_fs_get hlt]
  unfold pw_fv
  rw [pw_kind_int (by rw [hkd]; exact hk)]
  rfl
theorem PW.getr {idx ci a q : Nat} {kz : Int} {fn : Bool} (hd : decode μ.2.1 pc = .ok (.getfield idx, 3)) (hf : pw_FL μ.1.cls idx ci kz 2 fn) (hΓ : Γ[a]? = some (.inl ci)) (hq : R a kz = some q) (k : PW sc μ d kc ks post (pc + 3) L (.inr (some q) :: st) Γ I R) : PW sc μ d kc ks post pc L (.inr (some a) :: st) Γ I R := by
  intro w p l e RM s m args below meth c Q C fin H locs cells slots ls hR hS h1 h2 hl
  obtain ⟨C', T, kf, ⟨hc, hin, hty, hnm⟩, hlt, rfl, hkd, hfi, hdec, hlk⟩ := hf
  refine va_get C.1 C.2.1 (Ts := pw_gw) (C := C') (T := T) (N := pw_fn ci) (ci := ci) (ref := C') C.2.2.2.2.1 hin C.2.2.2.1 C.2.2.2.2.2.2.2.1.1 (hR.P hΓ) 0 rfl hc kf hlt (C.2.2.2.2.1 _ hlk) (fun x h => by rw [hdec] at h; exact h) (v := pw_tv w (.inr (some q))) ?_ hd (k w p l e RM s m args below meth c Q C fin H locs cells slots ls hR hS h1 h2 hl)
  rw [pw_fs_get hlt]
  unfold pw_fv
  rw [pw_kind_ref hkd, hq]
  rfl
theorem PW.getn {idx ci a : Nat} {kz : Int} {fn : Bool} (hd : decode μ.2.1 pc = .ok (.getfield idx, 3)) (hf : pw_FL μ.1.cls idx ci kz 2 fn) (hΓ : Γ[a]? = some (.inl ci)) (hq : R a kz = none) (k : PW sc μ d kc ks post (pc + 3) L (.inr none :: st) Γ I R) : PW sc μ d kc ks post pc L (.inr (some a) :: st) Γ I R := by
  intro w p l e RM s m args below meth c Q C fin H locs cells slots ls hR hS h1 h2 hl
  obtain ⟨C', T, kf, ⟨hc, hin, hty, hnm⟩, hlt, rfl, hkd, hfi, hdec, hlk⟩ := hf
  refine va_get C.1 C.2.1 (Ts := pw_gw) (C := C') (T := T) (N := pw_fn ci) (ci := ci) (ref := C') C.2.2.2.2.1 hin C.2.2.2.1 C.2.2.2.2.2.2.2.1.1 (hR.P hΓ) 0 rfl hc kf hlt (C.2.2.2.2.1 _ hlk) (fun x h => by rw [hdec] at h; exact h) (v := pw_tv w (.inr none)) ?_ hd (k w p l e RM s m args below meth c Q C fin H locs cells slots ls hR hS h1 h2 hl)
  rw [pw_fs_get hlt]
  unfold pw_fv
  rw [pw_kind_ref hkd, hq]
  rfl
/-- a store into a field, any kind: the new memory is told by what it says of the cell -/
theorem pw_put {idx ci a : Nat} {kz : Int} {kind : Nat} {fn : Bool} {v : PV} {I' : PIm} {R' : PRm} (hd : decode μ.2.1 pc = .ok (.putfield idx, 3)) (hf : pw_FL μ.1.cls idx ci kz kind fn) (hfn : fn = false ∨ (μ.1.name = "<init>" ∧ ∃ T, pw_CL ci μ.1.cls T)) (hΓ : Γ[a]? = some (.inl ci))
    (hfit : ∀ w : PWd, ∀ t : FieldType, pw_kind t = kind → narrow t (pw_tv w v) = pw_tv w v ∧ fits t (pw_tv w v) = true)
    (hset : ∀ w : PWd, ∀ kf : Nat, kf < pw_fn ci → (kf : Int) = kz → pw_kind (pw_ft ci kf) = kind → (pw_fs w ci (I a) (R a)).set kf (pw_tv w v) = pw_fs w ci (I' a) (R' a)) (hI : ∀ q, q ≠ a → I' q = I q) (hR' : ∀ q, q ≠ a → R' q = R q)
    (k : PW sc μ d kc ks post (pc + 3) L st Γ I' R') : PW sc μ d kc ks post pc L (v :: .inr (some a) :: st) Γ I R := by
  intro w p l e RM s m args below meth c Q C fin H locs cells slots ls hR hS h1 h2 hl
  obtain ⟨C', T, kf, ⟨hc, hin, hty, hnm⟩, hlt, hkz, hkd, hfi, hdec, hlk⟩ := hf
  have hts := C.2.2.2.2.1
  have hK := C.2.2.2.2.2.2.2.1.1
  have hap := va_apart (own := μ.1.cls) hts hin (pw_ft ci) hty hnm hK hc
  have hat := hR.2.2 a _ hΓ
  rw [← hR.ad hΓ] at hat
  obtain ⟨r, g1, cell, q1, q2, q3, q4⟩ := hat
  have hr : r = (C', T, pw_fn ci) := Option.some.inj (g1.symm.trans hc)
  subst hr
  obtain ⟨hSl, hfc, kC, hkC, hkind⟩ := hK.1 ci _ hc
  obtain ⟨cf, kF, fi, f, hi, hsl⟩ := hSl kf hlt
  have hst := (u_facts hfc hkC (u_lays hts hin hlt) hi).1
  have hlink := hts _ hlk
  have hi2 : s.fieldFound? C' (T kf).2.1 (T kf).2.2.1 = some (cf, kF, fi, f) := by
    have hi' := hi
    dsimp only at hi'
    rw [hdec] at hi'
    exact hi'
  have hft := hfit w (pw_ft ci kf) hkd
  have fin2 : ∀ H' : Heap, H'[pw_ad w a]? = some (cell.setSlot f.slot (pw_tv w v)) → H'.size = H.size → (∀ q, q ≠ pw_ad w a → H'[q]? = H[q]?) → pw_Rep w Γ I' R' H' := by
    intro H' e1 e2 e3
    refine hR.store hΓ ?_ e2 e3 hI hR'
    rw [hsl] at e1
    have hse := hset w kf hlt hkz hkd
    refine ⟨_, hc, t_OB.to (V := updV (vp_V (pw_fs w ci (I a) (R a))) kf (pw_tv w v)) ⟨_, e1, q2, q3, t_set q4 hap hlt (pw_tv w v)⟩ (fun j _ => ?_)⟩
    rw [vp_updV_set (by rw [pw_fs_len]; exact hlt) (pw_tv w v) j, hse]
  have hlay := hts _ (hin _ (u_in_lay hlt))
  unfold u_lay at hlay
  by_cases hfn' : fn = false
  · rw [if_neg (by rw [hfi, hfn']; decide)] at hlay
    have h6 := u_store hfc hkC hkind hlay hi (hty kf hlt) hft.1 hft.2
    refine W.putK C.1 C.2.1 (f := f) ⟨C.2.2.2.1, hlink, ⟨_, _, _, hi2⟩, hst⟩ (by rw [q2]; exact h6) q1 q3 (by rw [hsl]; exact k2_hasslot (q4 kf hlt)) rfl rfl hd fun H' e1 e2 e3 => ?_
    exact k w p l e RM s m args below meth c Q C fin H' _ cells slots ls (fin2 H' e1 e2 e3) (hS.put e2 e3 (pw_inA hR hΓ)) h1 h2 hl
  · have hfn2 : fn = true := by simpa using hfn'
    rcases hfn with h | ⟨hini, T', hcl', -⟩
    · exact absurd h hfn'
    · have hC : C' = μ.1.cls := by
        have := Option.some.inj (hc.symm.trans hcl')
        exact congrArg (fun x => x.1) this
      rw [if_pos (by rw [hfi, hfn2])] at hlay
      have hcf : m.cls = cf := by
        obtain ⟨_, _, c', _, _, _, -, -, hf', -, -, -, hown2, -⟩ := Cond.laysFinal_spec hlay
        have e1 : c' = cf := by have := hi.symm.trans hf'; simp at this; exact this.1.symm
        rw [hdec, hC] at hown2
        rw [← e1]; exact Option.some.inj (C.2.2.2.1.symm.trans hown2)
      have h6 := u_fits hfc hkC hkind (Or.inr hlay) hi (hty kf hlt) hft.1 hft.2
      refine W.putFinK C.1 C.2.1 C.2.2.2.1 hlink hi2 hst hcf (by rw [C.2.2.2.2.2.1]; exact hini) (by rw [q2]; exact h6) q1 q3 (by rw [hsl]; exact k2_hasslot (q4 kf hlt)) rfl rfl hd fun H' e1 e2 e3 => ?_
      exact k w p l e RM s m args below meth c Q C fin H' _ cells slots ls (fin2 H' e1 e2 e3) (hS.put e2 e3 (pw_inA hR hΓ)) h1 h2 hl
theorem pw_up_ne {I : PIm} {a : Nat} {i v : Int} : ∀ q, q ≠ a → pw_up I a i v q = I q := by
  intro q hq
  funext j
  simp [pw_up, hq]
theorem pw_upr_ne {R : PRm} {a : Nat} {i : Int} {v : Option Nat} : ∀ q, q ≠ a → pw_upr R a i v q = R q := by
  intro q hq
  funext j
  simp [pw_upr, hq]
theorem pw_fit_int {t : FieldType} (h : pw_kind t = 0) (x : Int32) : narrow t (.int x) = .int x ∧ fits t (.int x) = true := by
  cases t <;> first | (exact absurd h (by decide)) | (exact absurd (show (2 : Nat) = _ from h) (by decide)) | exact ⟨rfl, rfl⟩
theorem pw_fit_bool {t : FieldType} (h : pw_kind t = 1) {z : Int} (hz : z = 0 ∨ z = 1) : narrow t (.int (Int32.ofInt z)) = .int (Int32.ofInt z) ∧ fits t (.int (Int32.ofInt z)) = true := by
  cases t <;> first | (exact absurd h (by decide)) | (exact absurd (show (2 : Nat) = _ from h) (by decide)) | (rcases hz with rfl | rfl <;> exact ⟨by decide, by decide⟩)
theorem pw_fit_ref {t : FieldType} (h : pw_kind t = 2) (q : Nat) : narrow t (.ref q) = .ref q ∧ fits t (.ref q) = true := by
  cases t <;> first | (exact absurd h (by decide)) | (exact absurd (show (2 : Nat) = _ from h) (by decide)) | exact ⟨rfl, rfl⟩
theorem pw_set_int {a : Nat} {kz z : Int} {ci : Nat} {w : PWd} {kf : Nat} (h : kf < pw_fn ci) (e : (kf : Int) = kz) (hk : pw_kind (pw_ft ci kf) ≤ 1) : (pw_fs w ci (I a) (R a)).set kf (pw_tv w (.inl z)) = pw_fs w ci (pw_up I a kz z a) (R a) := by
  subst e
  refine pw_fs_set h ?_ ?_
  · unfold pw_fv
    rw [pw_kind_int hk]
    simp [pw_up, pw_tv]
  · intro j hj
    unfold pw_fv
    rw [show pw_up I a kf z a (j : Int) = I a j by simp [pw_up]; omega]
theorem pw_set_ref {a q : Nat} {kz : Int} {ci : Nat} {w : PWd} {kf : Nat} (h : kf < pw_fn ci) (e : (kf : Int) = kz) (hk : pw_kind (pw_ft ci kf) = 2) : (pw_fs w ci (I a) (R a)).set kf (pw_tv w (.inr (some q))) = pw_fs w ci (I a) (pw_upr R a kz (some q) a) := by
  subst e
  refine pw_fs_set h ?_ ?_
  · unfold pw_fv
    rw [pw_kind_ref hk]
    simp [pw_upr, pw_tv, va_rf]
  · intro j hj
    unfold pw_fv
    rw [show pw_upr R a kf (some q) a (j : Int) = R a j by simp [pw_upr]; omega]
theorem PW.puti {idx ci a : Nat} {kz z : Int} (hd : decode μ.2.1 pc = .ok (.putfield idx, 3)) (hf : pw_FL μ.1.cls idx ci kz 0 false) (hΓ : Γ[a]? = some (.inl ci)) (k : PW sc μ d kc ks post (pc + 3) L st Γ (pw_up I a kz z) R) : PW sc μ d kc ks post pc L (.inl z :: .inr (some a) :: st) Γ I R :=
  pw_put hd hf (Or.inl rfl) hΓ (fun w t h => pw_fit_int h _) (fun w kf h e hk => pw_set_int h e (by omega)) pw_up_ne (fun _ _ => rfl) k
theorem PW.putz {idx ci a : Nat} {kz z : Int} (hd : decode μ.2.1 pc = .ok (.putfield idx, 3)) (hf : pw_FL μ.1.cls idx ci kz 1 false) (hΓ : Γ[a]? = some (.inl ci)) (hz : z = 0 ∨ z = 1) (k : PW sc μ d kc ks post (pc + 3) L st Γ (pw_up I a kz z) R) : PW sc μ d kc ks post pc L (.inl z :: .inr (some a) :: st) Γ I R :=
  pw_put hd hf (Or.inl rfl) hΓ (fun w t h => pw_fit_bool h hz) (fun w kf h e hk => pw_set_int h e (by omega)) pw_up_ne (fun _ _ => rfl) k
theorem PW.putr {idx ci a q : Nat} {kz : Int} (hd : decode μ.2.1 pc = .ok (.putfield idx, 3)) (hf : pw_FL μ.1.cls idx ci kz 2 false) (hΓ : Γ[a]? = some (.inl ci)) (k : PW sc μ d kc ks post (pc + 3) L st Γ I (pw_upr R a kz (some q))) : PW sc μ d kc ks post pc L (.inr (some q) :: .inr (some a) :: st) Γ I R :=
  pw_put hd hf (Or.inl rfl) hΓ (fun w t h => pw_fit_ref h _) (fun w kf h e hk => pw_set_ref h e hk) (fun _ _ => rfl) pw_upr_ne k
theorem PW.putrF {idx ci a q : Nat} {kz : Int} {T : u_T} (hd : decode μ.2.1 pc = .ok (.putfield idx, 3)) (hf : pw_FL μ.1.cls idx ci kz 2 true) (hini : μ.1.name = "<init>") (hcl : pw_CL ci μ.1.cls T) (hΓ : Γ[a]? = some (.inl ci)) (k : PW sc μ d kc ks post (pc + 3) L st Γ I (pw_upr R a kz (some q))) : PW sc μ d kc ks post pc L (.inr (some q) :: .inr (some a) :: st) Γ I R :=
  pw_put hd hf (Or.inr ⟨hini, T, hcl⟩) hΓ (fun w t h => pw_fit_ref h _) (fun w kf h e hk => pw_set_ref h e hk) (fun _ _ => rfl) pw_upr_ne k
/-! arrays -/
theorem pw_idx {i : Int} {n : Nat} (h0 : 0 ≤ i) (h1 : i < n) (hn : n ≤ 2147483647) : vp_in (Int32.ofInt i) n ∧ (Int32.ofInt i).toNatClampNeg = i.toNat := by
  have hr : Rg i := by omega
  have e : (Int32.ofInt i).toNatClampNeg = i.toNat := by
    show (Int32.ofInt i).toInt.toNat = i.toNat
    rw [rg_toInt hr]
  refine ⟨?_, e⟩
  rintro (h | h)
  · have := (rg_lt hr (by decide : Rg 0)).mp h
    omega
  · rw [e] at h
    omega
theorem PW.iald {a n : Nat} {i : Int} (hd : decode μ.2.1 pc = .ok (.iaload, 1)) (hΓ : Γ[a]? = some (.inr (0, n))) (h0 : 0 ≤ i) (hi : i < n) (hn : n ≤ 2147483647) (k : PW sc μ d kc ks post (pc + 1) L (.inl (I a i) :: st) Γ I R) : PW sc μ d kc ks post pc L (.inl i :: .inr (some a) :: st) Γ I R := by
  intro w p l e RM s m args below meth c Q C fin H locs cells slots ls hR hS h1 h2 hl
  obtain ⟨g1, g2⟩ := pw_idx h0 hi hn
  refine va_iald C.1 C.2.1 C.2.2.2.2.2.2.2.1.1 (hR.P hΓ) 0 0 rfl rfl g1 hd ?_
  rw [g2, Int.toNat_of_nonneg h0]
  exact k w p l e RM s m args below meth c Q C fin H locs cells slots ls hR hS h1 h2 hl
theorem PW.zald {a n : Nat} {i : Int} (hd : decode μ.2.1 pc = .ok (.baload, 1)) (hΓ : Γ[a]? = some (.inr (1, n))) (h0 : 0 ≤ i) (hi : i < n) (hn : n ≤ 2147483647) (k : PW sc μ d kc ks post (pc + 1) L (.inl (I a i) :: st) Γ I R) : PW sc μ d kc ks post pc L (.inl i :: .inr (some a) :: st) Γ I R := by
  intro w p l e RM s m args below meth c Q C fin H locs cells slots ls hR hS h1 h2 hl
  obtain ⟨g1, g2⟩ := pw_idx h0 hi hn
  refine va_zald C.1 C.2.1 C.2.2.2.2.2.2.2.1.1 (hR.P hΓ) 0 1 rfl rfl g1 hd ?_
  rw [g2, Int.toNat_of_nonneg h0]
  exact k w p l e RM s m args below meth c Q C fin H locs cells slots ls hR hS h1 h2 hl
theorem PW.aald {a n q : Nat} {i : Int} (hd : decode μ.2.1 pc = .ok (.aaload, 1)) (hΓ : Γ[a]? = some (.inr (2, n))) (h0 : 0 ≤ i) (hi : i < n) (hn : n ≤ 2147483647) (hq : R a i = some q) (k : PW sc μ d kc ks post (pc + 1) L (.inr (some q) :: st) Γ I R) : PW sc μ d kc ks post pc L (.inl i :: .inr (some a) :: st) Γ I R := by
  intro w p l e RM s m args below meth c Q C fin H locs cells slots ls hR hS h1 h2 hl
  obtain ⟨g1, g2⟩ := pw_idx h0 hi hn
  refine va_aldq C.1 C.2.1 C.2.2.2.2.2.2.2.1.1 (hR.P hΓ) 0 2 rfl rfl g1 hd ?_
  rw [g2, Int.toNat_of_nonneg h0, hq]
  exact k w p l e RM s m args below meth c Q C fin H locs cells slots ls hR hS h1 h2 hl
theorem PW.alen {a n kd : Nat} (hd : decode μ.2.1 pc = .ok (.arraylength, 1)) (hΓ : Γ[a]? = some (.inr (kd, n))) (k : PW sc μ d kc ks post (pc + 1) L (.inl (n : Int) :: st) Γ I R) : PW sc μ d kc ks post pc L (.inr (some a) :: st) Γ I R := by
  intro w p l e RM s m args below meth c Q C fin H locs cells slots ls hR hS h1 h2 hl
  have K := k w p l e RM s m args below meth c Q C fin H locs cells slots ls hR hS h1 h2 hl
  match kd, hΓ with
  | 0, hΓ => exact va_alen C.1 C.2.1 C.2.2.2.2.2.2.2.1.1 (hR.P hΓ) 0 0 rfl rfl (by rfl) hd K
  | 1, hΓ => exact va_alen C.1 C.2.1 C.2.2.2.2.2.2.2.1.1 (hR.P hΓ) 0 1 rfl rfl (by rfl) hd K
  | _ + 2, hΓ => exact va_alen C.1 C.2.1 C.2.2.2.2.2.2.2.1.1 (hR.P hΓ) 0 2 rfl rfl (by rfl) hd K
theorem pw_up_arr {a : Nat} {i x : Int} (h0 : 0 ≤ i) : updV (fun j => .int (Int32.ofInt (I a (j : Int)))) i.toNat (.int (Int32.ofInt x)) = fun j : Nat => Value.int (Int32.ofInt (pw_up I a i x a (j : Int))) := by
  funext j
  unfold updV pw_up
  by_cases h : j = i.toNat
  · rw [if_pos h, if_pos ⟨rfl, by omega⟩]
  · rw [if_neg h, if_neg (fun q => h (by omega))]
theorem PW.iast {a n : Nat} {i x : Int} (hd : decode μ.2.1 pc = .ok (.iastore, 1)) (hΓ : Γ[a]? = some (.inr (0, n))) (h0 : 0 ≤ i) (hi : i < n) (hn : n ≤ 2147483647) (k : PW sc μ d kc ks post (pc + 1) L st Γ (pw_up I a i x) R) : PW sc μ d kc ks post pc L (.inl x :: .inl i :: .inr (some a) :: st) Γ I R := by
  intro w p l e RM s m args below meth c Q C fin H locs cells slots ls hR hS h1 h2 hl
  obtain ⟨g1, g2⟩ := pw_idx h0 hi hn
  have hat := hR.2.2 a _ hΓ
  rw [← hR.ad hΓ] at hat
  refine W.iast C.1 C.2.1 hat ((C.2.2.2.2.2.2.2.1.1.2 0 _ rfl).1 n _) (fun q => by cases q) (by show ¬ (_ ∨ (arrV _ _ _).slots.size ≤ _); rw [arrV_size]; exact g1) rfl rfl hd fun H1 e1 z oq => ?_
  refine k w p l e RM s m args below meth c Q C fin H1 _ cells slots ls (hR.store hΓ ?_ z oq pw_up_ne (fun _ _ => rfl)) (hS.put z oq (pw_inA hR hΓ)) h1 h2 hl
  show H1[pw_ad w a]? = some (vp_cell _ (n, .inl _))
  rw [e1, g2, vp_cell_i, vp_cell_i, arrV_store, pw_up_arr h0]
theorem PW.zast {a n : Nat} {i x : Int} (hd : decode μ.2.1 pc = .ok (.bastore, 1)) (hΓ : Γ[a]? = some (.inr (1, n))) (h0 : 0 ≤ i) (hi : i < n) (hn : n ≤ 2147483647) (hx : x = 0 ∨ x = 1) (k : PW sc μ d kc ks post (pc + 1) L st Γ (pw_up I a i x) R) : PW sc μ d kc ks post pc L (.inl x :: .inl i :: .inr (some a) :: st) Γ I R := by
  intro w p l e RM s m args below meth c Q C fin H locs cells slots ls hR hS h1 h2 hl
  obtain ⟨g1, g2⟩ := pw_idx h0 hi hn
  have hat := hR.2.2 a _ hΓ
  rw [← hR.ad hΓ] at hat
  refine W.zast C.1 C.2.1 hat ((C.2.2.2.2.2.2.2.1.1.2 1 _ rfl).1 n _) (fun q => by cases q) (by show ¬ (_ ∨ (arrV _ _ _).slots.size ≤ _); rw [arrV_size]; exact g1) rfl rfl hd fun H1 e1 z oq => ?_
  refine k w p l e RM s m args below meth c Q C fin H1 _ cells slots ls (hR.store hΓ ?_ z oq pw_up_ne (fun _ _ => rfl)) (hS.put z oq (pw_inA hR hΓ)) h1 h2 hl
  show H1[pw_ad w a]? = some (vp_cell _ (n, .inl _))
  rw [e1, g2, (pw_fit_bool (t := .boolean) rfl hx).1, vp_cell_i, vp_cell_i, arrV_store, pw_up_arr h0]
theorem PW.aast {a n v : Nat} {i : Int} (hd : decode μ.2.1 pc = .ok (.aastore, 1)) (hΓ : Γ[a]? = some (.inr (2, n))) (hv : Γ[v]? = some (.inl 7)) (h0 : 0 ≤ i) (hi : i < n) (hn : n ≤ 2147483647) (k : PW sc μ d kc ks post (pc + 1) L st Γ I (pw_upr R a i (some v))) : PW sc μ d kc ks post pc L (.inr (some v) :: .inl i :: .inr (some a) :: st) Γ I R := by
  intro w p l e RM s m args below meth c Q C fin H locs cells slots ls hR hS h1 h2 hl
  obtain ⟨g1, g2⟩ := pw_idx h0 hi hn
  have hat := hR.2.2 a _ hΓ
  rw [← hR.ad hΓ] at hat
  have hK := C.2.2.2.2.2.2.2.1.1
  have hav := hR.2.2 v _ hv
  rw [← hR.ad hv] at hav
  obtain ⟨r', hr', cellV, f1, f2, f3, -⟩ := hav
  have hcls := (hK.1 7 (RX7, TX7, 3) rfl).2
  obtain ⟨kA, comp, k1, k2, k3, -⟩ := (hK.2 2 _ rfl).2
  have hcomp : comp = w.2.2.2.1.1 7 := Option.some.inj (k3.symm.trans hcls.1)
  subst hcomp
  obtain ⟨kC, hkC, -⟩ := hcls.2
  refine W.aast C.1 C.2.1 hat (fun q h => by cases h) (fun h => by cases h) k1 k2 rfl hkC ⟨fun q => g1 (Or.inl q), by show _ < (arrV _ _ _).slots.size; rw [arrV_size]; exact Nat.not_le.mp fun q => g1 (Or.inr q)⟩ f1 (fun q h => by rw [f3] at h; cases h) (by rw [f2]; exact hkC) (by rw [f2]; exact va_assign hcls) rfl rfl hd fun H1 e1 z oq => ?_
  refine k w p l e RM s m args below meth c Q C fin H1 _ cells slots ls (hR.store hΓ ?_ z oq (fun _ _ => rfl) pw_upr_ne) (hS.put z oq (pw_inA hR hΓ)) h1 h2 hl
  show H1[pw_ad w a]? = some (vp_cell _ (n, .inr (.inr (.inr (.inr _)))))
  rw [e1, g2, vp_cell_q, vp_cell_q, arrV_store]
  congr 2
  funext j
  unfold updV pw_upr
  by_cases h : j = i.toNat
  · rw [if_pos h, if_pos ⟨rfl, by omega⟩]
    rfl
  · rw [if_neg h, if_neg (fun q => h (by omega))]
end PWHEAP
end
section
section PWCALLS
variable {sc : PSc} {μ : PMI} {d kc ks : Nat} {post : PPost} {pc : Nat} {L : List (Option PV)} {st : List PV} {Γ : List PTy} {I : PIm} {R : PRm}
/-! allocation -/
def pw_zi (I : PIm) (a : Nat) : PIm := fun b j => if b = a then 0 else I b j
def pw_zr (R : PRm) (a : Nat) : PRm := fun b j => if b = a then none else R b j
theorem pw_Rep.push {w : PWd} {H H' : Heap} {T : PTy} (h : pw_Rep w Γ I R H) (hl : Γ.length < 100000) (z : H'.size = H.size + 1) (ho : ∀ q, q < H.size → H'[q]? = H[q]?) (hn : va_at w.2.2.2.1 vwCl (H.size, pw_ce w T (fun _ => 0) (fun _ => none)) H') : pw_Rep w (Γ ++ [T]) (pw_zi I Γ.length) (pw_zr R Γ.length) H' := by
  refine ⟨by rw [z, h.1]; simp; omega, by simp; omega, fun p U hp => ?_⟩
  by_cases hlt : p < Γ.length
  · rw [List.getElem?_append_left hlt] at hp
    have e1 : pw_zi I Γ.length p = I p := by funext j; simp [pw_zi]; omega
    have e2 : pw_zr R Γ.length p = R p := by funext j; simp [pw_zr]; omega
    rw [e1, e2]
    exact (h.2.2 p U hp).kept (ho _ (by rw [h.1]; show w.1 + p < w.1 + Γ.length; omega))
  · rw [List.getElem?_append_right (Nat.not_lt.mp hlt)] at hp
    have hz : p - Γ.length < 1 := (List.getElem?_eq_some_iff.mp hp).1
    have ep : p = Γ.length := by omega
    subst ep
    rw [Nat.sub_self] at hp
    cases hp
    have e1 : pw_zi I Γ.length Γ.length = fun _ => 0 := by funext j; simp [pw_zi]
    have e2 : pw_zr R Γ.length Γ.length = fun _ => none := by funext j; simp [pw_zr]
    rw [e1, e2, ← h.1]
    exact hn
theorem pw_dflt (t : FieldType) (h : pw_kind t ≤ 2) : defaultValue t = if pw_isref t = true then .null else .int 0 := by
  cases t <;> first | rfl | (exact absurd (show (3 : Nat) ≤ 2 from h) (by decide))
theorem PW.new {idx ci : Nat} {C' : String} {T : u_T} (hd : decode μ.2.1 pc = .ok (.new idx, 3)) (hcl : pw_CL ci C' T) (hwd : Cond.classLink μ.1.cls idx C' ∈ pw_gw ∧ Cond.instantiable C' (pw_fn ci) ∈ pw_gw ∧ Cond.initialized C' ∈ pw_gw) (hkd : ∀ k, k < pw_fn ci → pw_kind (pw_ft ci k) ≤ 2) (hlen : Γ.length < 100000) (k : PW sc μ d kc ks post (pc + 3) L (.inr (some Γ.length) :: st) (Γ ++ [.inl ci]) (pw_zi I Γ.length) (pw_zr R Γ.length)) : PW sc μ d (kc + 1) (ks + pw_fn ci) post pc L st Γ I R := by
  intro w p l e RM s m args below meth c Q C fin H locs cells slots ls hR hS h1 h2 hl
  obtain ⟨hc, hin, hty, hnm⟩ := hcl
  have hts := C.2.2.2.2.1
  have hK := C.2.2.2.2.2.2.2.1.1
  have hKn := hK.1 ci _ hc
  have ead : pw_ad w Γ.length = H.size := by rw [pw_ad_lt hlen, hR.1]
  refine W.newcK C.1 C.2.1 C.2.2.2.1 (hts _ hwd.1) (hts _ hwd.2.1) (hts _ hwd.2.2) rfl hd (by omega) (by omega) hKn.2.1 rfl fun H1 kC hkC e1 z1 o1 => ?_
  have K := k w p l e RM s m args below meth c Q C fin H1 locs (cells + 1) (slots + pw_fn ci) ls (hR.push hlen z1 o1 ?_) ⟨Nat.le_trans hS.1 (by omega), fun x g1 g2 => (o1 x (Nat.lt_of_lt_of_le g1 hS.1)).trans (hS.2.1 x g1 g2), hS.2.2⟩ (by omega) (by omega) hl
  · rw [List.map_cons, show pw_tv w (.inr (some Γ.length)) = .ref (pw_ad w Γ.length) from rfl, ead] at K
    exact K
  · refine ⟨_, hc, (u_born (pw_ft ci) hts hin hKn hkC e1 hty).to fun j hj => ?_⟩
    rw [pw_dflt _ (hkd j hj)]
    unfold vp_V
    rw [List.getD_eq_getElem?_getD, pw_fs_get hj]
    show _ = pw_fv w ci (fun _ => 0) (fun _ => none) j
    unfold pw_fv
    rfl
theorem PW.newi {n : Int} {N : Nat} (hd : decode μ.2.1 pc = .ok (.newarray .int, 2)) (hwd : Cond.arrayClass .int ∈ pw_gw) (hn : n = (N : Int)) (hN : N ≤ 100000) (hlen : Γ.length < 100000) (k : PW sc μ d kc ks post (pc + 2) L (.inr (some Γ.length) :: st) (Γ ++ [.inr (0, N)]) (pw_zi I Γ.length) (pw_zr R Γ.length)) : PW sc μ d (kc + 1) (ks + N) post pc L (.inl n :: st) Γ I R := by
  intro w p l e RM s m args below meth c Q C fin H locs cells slots ls hR hS h1 h2 hl
  subst hn
  have hts := C.2.2.2.2.1
  have hK := C.2.2.2.2.2.2.2.1.1
  have hr : Rg (N : Int) := by omega
  have ead : pw_ad w Γ.length = H.size := by rw [pw_ad_lt hlen, hR.1]
  have eN : (Int32.ofInt (N : Int)).toNatClampNeg = N := by
    show (Int32.ofInt (N : Int)).toInt.toNat = N
    rw [rg_toInt hr]; rfl
  refine va_newaK C.1 C.2.1 (atype := .int) (hts _ hwd) rfl hd rfl (fun h => by have := (rg_lt hr (by decide : Rg 0)).mp h; omega) eN (by show N * 4 ≤ _; omega) (by omega) (by omega) rfl fun H1 cA e1 z1 o1 hAr hNm => ?_
  have hcA : cA = w.2.2.2.2.1 := Option.some.inj (hNm.symm.trans (hK.2 0 _ rfl).2)
  subst hcA
  have K := k w p l e RM s m args below meth c Q C fin H1 locs (cells + 1) (slots + N) ls (hR.push hlen z1 o1 e1) ⟨Nat.le_trans hS.1 (by omega), fun x g1 g2 => (o1 x (Nat.lt_of_lt_of_le g1 hS.1)).trans (hS.2.1 x g1 g2), hS.2.2⟩ (by omega) (by omega) hl
  rw [List.map_cons, show pw_tv w (.inr (some Γ.length)) = .ref (pw_ad w Γ.length) from rfl, ead] at K
  exact K
theorem PW.newz {n : Int} {N : Nat} (hd : decode μ.2.1 pc = .ok (.newarray .boolean, 2)) (hwd : Cond.arrayClass .boolean ∈ pw_gw) (hn : n = (N : Int)) (hN : N ≤ 100000) (hlen : Γ.length < 100000) (k : PW sc μ d kc ks post (pc + 2) L (.inr (some Γ.length) :: st) (Γ ++ [.inr (1, N)]) (pw_zi I Γ.length) (pw_zr R Γ.length)) : PW sc μ d (kc + 1) (ks + N) post pc L (.inl n :: st) Γ I R := by
  intro w p l e RM s m args below meth c Q C fin H locs cells slots ls hR hS h1 h2 hl
  subst hn
  have hts := C.2.2.2.2.1
  have hK := C.2.2.2.2.2.2.2.1.1
  have hr : Rg (N : Int) := by omega
  have ead : pw_ad w Γ.length = H.size := by rw [pw_ad_lt hlen, hR.1]
  have eN : (Int32.ofInt (N : Int)).toNatClampNeg = N := by
    show (Int32.ofInt (N : Int)).toInt.toNat = N
    rw [rg_toInt hr]; rfl
  refine va_newaK C.1 C.2.1 (atype := .boolean) (hts _ hwd) rfl hd rfl (fun h => by have := (rg_lt hr (by decide : Rg 0)).mp h; omega) eN (by show N * 1 ≤ _; omega) (by omega) (by omega) rfl fun H1 cA e1 z1 o1 hAr hNm => ?_
  have hcA : cA = w.2.2.2.2.2.1 := Option.some.inj (hNm.symm.trans (hK.2 1 _ rfl).2)
  subst hcA
  have K := k w p l e RM s m args below meth c Q C fin H1 locs (cells + 1) (slots + N) ls (hR.push hlen z1 o1 e1) ⟨Nat.le_trans hS.1 (by omega), fun x g1 g2 => (o1 x (Nat.lt_of_lt_of_le g1 hS.1)).trans (hS.2.1 x g1 g2), hS.2.2⟩ (by omega) (by omega) hl
  rw [List.map_cons, show pw_tv w (.inr (some Γ.length)) = .ref (pw_ad w Γ.length) from rfl, ead] at K
  exact K
theorem PW.newq {idx : Nat} {n : Int} {N : Nat} (hd : decode μ.2.1 pc = .ok (.anewarray idx, 3)) (hwd : Cond.classLink μ.1.cls idx "FlushedPipes$Setting" ∈ pw_gw) (hn : n = (N : Int)) (hN : N ≤ 100000) (hlen : Γ.length < 100000) (k : PW sc μ d kc ks post (pc + 3) L (.inr (some Γ.length) :: st) (Γ ++ [.inr (2, N)]) (pw_zi I Γ.length) (pw_zr R Γ.length)) : PW sc μ d (kc + 1) (ks + N) post pc L (.inl n :: st) Γ I R := by
  intro w p l e RM s m args below meth c Q C fin H locs cells slots ls hR hS h1 h2 hl
  subst hn
  have hts := C.2.2.2.2.1
  have hK := C.2.2.2.2.2.2.2.1.1
  have hr : Rg (N : Int) := by omega
  have ead : pw_ad w Γ.length = H.size := by rw [pw_ad_lt hlen, hR.1]
  have eN : (Int32.ofInt (N : Int)).toNatClampNeg = N := by
    show (Int32.ofInt (N : Int)).toInt.toNat = N
    rw [rg_toInt hr]; rfl
  refine W.anew C.1 C.2.1 C.2.2.2.1 (hts _ hwd) (va_AO.use C.2.2.2.2.2.2.2.1.2.2) rfl hd rfl (fun h => by have := (rg_lt hr (by decide : Rg 0)).mp h; omega) (by rw [eN]; omega) (by omega) (by rw [eN]; omega) fun cA kA comp f1 f2 f3 f4 => ?_
  rw [eN]
  obtain ⟨kA', comp', -, -, -, hNm⟩ := (hK.2 2 _ rfl).2
  have hcA : cA = w.2.2.2.2.2.2 := Option.some.inj (f1.symm.trans hNm)
  subst hcA
  have z1 : (H.push ({ cls := w.2.2.2.2.2.2, slots := Array.replicate N .null, vm := .none } : Cell)).size = H.size + 1 := Array.size_push _
  have o1 : ∀ q, q < H.size → (H.push ({ cls := w.2.2.2.2.2.2, slots := Array.replicate N .null, vm := .none } : Cell))[q]? = H[q]? := fun q hq => by rw [Array.getElem?_push, if_neg (Nat.ne_of_lt hq)]
  have K := k w p l e RM s m args below meth c Q C fin _ locs (cells + 1) (slots + N) ls (hR.push hlen z1 o1 (by
    show (H.push _)[H.size]? = some (vp_cell _ (N, _))
    rw [Array.getElem?_push_size, vp_cell_q]
    rw [show (fun j : Nat => va_rf (Option.map (pw_ad w) (none : Option Nat))) = fun _ => Value.null from rfl, ← arrV_new])) ⟨Nat.le_trans hS.1 (by omega), fun x g1 g2 => (o1 x (Nat.lt_of_lt_of_le g1 hS.1)).trans (hS.2.1 x g1 g2), hS.2.2⟩ (by omega) (by omega) hl
  rw [List.map_cons, show pw_tv w (.inr (some Γ.length)) = .ref (pw_ad w Γ.length) from rfl, ead] at K
  exact K
/-! what lies outside: the script, the table of forwards -/
theorem PW.sld {i : Int} (hd : decode μ.2.1 pc = .ok (.iaload, 1)) (h0 : 0 ≤ i) (hi : i < sc.1) (hn : sc.1 ≤ 2147483647) (k : PW sc μ d kc ks post (pc + 1) L (.inl (sc.2 i.toNat).toInt :: st) Γ I R) : PW sc μ d kc ks post pc L (.inl i :: .inr (some 100000) :: st) Γ I R := by
  intro w p l e RM s m args below meth c Q C fin H locs cells slots ls hR hS h1 h2 hl
  obtain ⟨g1, g2⟩ := pw_idx h0 hi hn
  obtain ⟨hX, hb, -, -, hB⟩ := C.2.2.2.2.2.2.2.2
  have K := k w p l e RM s m args below meth c Q C fin H locs cells slots ls hR hS h1 h2 hl
  rw [List.map_cons, show pw_tv w (.inl (sc.2 i.toNat).toInt) = .int (Int32.ofInt (sc.2 i.toNat).toInt) from rfl, Int32.ofInt_toInt, ← g2] at K
  exact va_sld C.1 C.2.1 hX (Nat.lt_of_lt_of_le hb hB) (A := pw_A w) (Nat.not_le.mpr hb) hS g1 hd K
theorem PW.slen (hd : decode μ.2.1 pc = .ok (.arraylength, 1)) (k : PW sc μ d kc ks post (pc + 1) L (.inl (sc.1 : Int) :: st) Γ I R) : PW sc μ d kc ks post pc L (.inr (some 100000) :: st) Γ I R := by
  intro w p l e RM s m args below meth c Q C fin H locs cells slots ls hR hS h1 h2 hl
  obtain ⟨hX, hb, -, -, hB⟩ := C.2.2.2.2.2.2.2.2
  exact va_slen C.1 C.2.1 hX (Nat.lt_of_lt_of_le hb hB) (A := pw_A w) (Nat.not_le.mpr hb) hS hd (k w p l e RM s m args below meth c Q C fin H locs cells slots ls hR hS h1 h2 hl)
theorem PW.gets {idx : Nat} (hd : decode μ.2.1 pc = .ok (.getstatic idx, 3)) (hwd : Cond.fieldLink μ.1.cls idx "FlushedPipes" "FORWARDS_BY_BITS" "[I" ∈ pw_gw) (k : PW sc μ d kc ks post (pc + 3) L (.inr (some 100001) :: st) Γ I R) : PW sc μ d kc ks post pc L st Γ I R := by
  intro w p l e RM s m args below meth c Q C fin H locs cells slots ls hR hS h1 h2 hl
  obtain ⟨-, -, hZ, -, -⟩ := C.2.2.2.2.2.2.2.2
  exact va_gets C.1 C.2.1 hZ hS C.2.2.2.1 (C.2.2.2.2.1 _ hwd) (fun x h => h) hd (k w p l e RM s m args below meth c Q C fin H locs cells slots ls hR hS h1 h2 hl)
theorem PW.fld {i : Int} (hd : decode μ.2.1 pc = .ok (.iaload, 1)) (h0 : 0 ≤ i) (hi : i < 8) (k : PW sc μ d kc ks post (pc + 1) L (.inl (pw_fw i) :: st) Γ I R) : PW sc μ d kc ks post pc L (.inl i :: .inr (some 100001) :: st) Γ I R := by
  intro w p l e RM s m args below meth c Q C fin H locs cells slots ls hR hS h1 h2 hl
  obtain ⟨g1, g2⟩ := pw_idx (n := 8) h0 hi (by decide)
  obtain ⟨-, -, -, hT, -⟩ := C.2.2.2.2.2.2.2.2
  exact va_ti C.1 C.2.1 hT hS g1 (v := pw_tv w (.inl (pw_fw i))) (by rw [g2]; show Value.int (Int32.ofInt (pw_fw (i.toNat : Int))) = _; rw [Int.toNat_of_nonneg h0]; rfl) hd (k w p l e RM s m args below meth c Q C fin H locs cells slots ls hR hS h1 h2 hl)
theorem PW.flen (hd : decode μ.2.1 pc = .ok (.arraylength, 1)) (k : PW sc μ d kc ks post (pc + 1) L (.inl 8 :: st) Γ I R) : PW sc μ d kc ks post pc L (.inr (some 100001) :: st) Γ I R := by
  intro w p l e RM s m args below meth c Q C fin H locs cells slots ls hR hS h1 h2 hl
  obtain ⟨-, -, -, ⟨cell, t1, t2, t3, t4, t5, t6, t7⟩, -⟩ := C.2.2.2.2.2.2.2.2
  have hlt := (Array.getElem?_eq_some_iff.mp t1).1
  exact W.alen C.1 C.2.1 (by rw [show pw_ad w 100001 = w.2.2.1 from rfl]; rw [hS.2.1 _ hlt t7]; exact t1) t2 t5 rfl rfl hd (k w p l e RM s m args below meth c Q C fin H locs cells slots ls hR hS h1 h2 hl)
/-! calls -/
theorem pw_good {ws : List Cond} (h : ∀ x ∈ ws, x ∈ pw_gw) : GoodIn pw_gw ws := fun x hx => ⟨h x hx, good_of_word (List.mem_filter.mp (h x hx)).2⟩
theorem pw_cats (w : PWd) (st : List PV) : ((st.map (pw_tv w)).map fun v => v.category).sum = st.length := by
  induction st with
  | nil => rfl
  | cons a t ih => simp only [List.map_cons, List.sum_cons, ih, pw_tv_cat, List.length_cons]; omega
theorem pw_WK.warm {w : PWd} {s U : State} (hW : s.WarmedH U.vm) (h : pw_WK w s) : pw_WK w U := by
  refine ⟨va_K.moved hW.alike h.1, fun x hx => ?_, va_AO.moved hW.alike h.2.2⟩
  have h1 := h.2.1 x hx
  have h2 := (List.mem_filter.mp hx).2
  cases x <;> first | (exact absurd h2 (by decide)) | (exact absurd h2 Bool.false_ne_true) | exact va_Nw.warmM hW h1
theorem pw_RO.go {w : PWd} {s U : State} {H : Heap} {locs : List Loc} (h : pw_RO w sc s s.heap) (hS : va_S (pw_A w) s.heap H locs) (hW : s.vm.Alike U.vm) : pw_RO w sc U H := by
  obtain ⟨h1, h2, h3, h4, h5⟩ := h
  refine ⟨(h1.kept (hS.2.1 _ (Nat.lt_of_lt_of_le h2 h5) (Nat.not_le.mpr h2))).moved hW, h2, (h3.kept hS.2.1).moved hW, (h4.kept hS.2.1).moved hW, Nat.le_trans h5 hS.1⟩
theorem pw_blind {w : PWd} {av : List PV} : FrameBlind (pw_pre sc w av Γ I R) := by
  intro a U g mk q
  obtain ⟨q0, qW, qR, qP⟩ := q
  refine ⟨q0, ⟨va_K.moved (u := U) (U := U.calling g mk a) (Vm.Alike.refl U.vm) qW.1, fun x hx => ?_, va_AO.moved (u := U) (U := U.calling g mk a) (Vm.Alike.refl U.vm) qW.2.2⟩, ?_, qP⟩
  · have h1 := qW.2.1 x hx
    have h2 := (List.mem_filter.mp hx).2
    cases x <;> first | (exact absurd h2 (by decide)) | (exact absurd h2 Bool.false_ne_true) | exact va_Nw.same (u := U) rfl rfl h1
  · exact pw_RO.go (s := U) (U := U.calling g mk a) qR va_S.rf (Vm.Alike.refl U.vm)
theorem pw_after {w : PWd} {p : Program} {l : Launch} {e : Env} {RM : Room} {s : State} {m : MethodId} {args a0 : Array Value} {below : List Frame} {meth : Method} {c : Code} {Q : State → Prop} {H : Heap} {locs : List Loc} {cells slots kc' ks' : Nat} {ls : Array Slot} {st0 : List Value} {post' : PPost}
    (hr : va_Run p l e RM s m args below meth c H locs cells slots kc' ks' (F0 m pc ls st0) (st.map (pw_tv w)) (pw_post w post' a0) (pw_A w))
    (C : pw_Cx sc μ d w p RM s m args meth c)
    (fin : ∀ (v : Option PV) (Γ' : List PTy) (I' : PIm) (R' : PRm) (H' : Heap) (locs' : List Loc) (cells' slots' : Nat) (pc' : Nat) (ls' : Array Slot), post v Γ' I' R' → pw_Rep w Γ' I' R' H' → va_S (pw_A w) s.heap H' locs' → cells' ≤ RM.cells → slots' ≤ RM.slots → pw_ret μ pc' v →
      W p l e RM s m args below meth c H' locs' cells' slots' Q (F0 m pc' ls' (v.toList.map (pw_tv w))))
    (hS : va_S (pw_A w) s.heap H locs) (h1 : cells + (kc + kc') ≤ RM.cells) (h2 : slots + (ks + ks') ≤ RM.slots) (hl : pw_L w ls μ.2.2.1 L)
    (k : ∀ (v : Option PV) (Γ' : List PTy) (I' : PIm) (R' : PRm), post' v Γ' I' R' → PW sc μ d kc ks post (pc + 3) L (v.toList ++ st) Γ' I' R') : W p l e RM s m args below meth c H locs cells slots Q (F0 m pc ls st0) := by
  intro T hT X
  obtain ⟨v, st₀, t, T', Ls, h0, X', hL, e1, e2, ⟨⟨v', Γ', I', R', hv, hp, hRep⟩, hF⟩, hgo⟩ := hr T hT X
  have hv' : v = v'.map (pw_tv w) := by injection hv
  subst hv'
  rw [va_F, h0] at hF
  have K := k v' Γ' I' R' hp w p l e RM s m args below meth c Q C fin T'.heap (locs ++ Ls) (cells + kc') (slots + ks') ls (by rw [e1]; exact hRep)
    ⟨Nat.le_trans hS.1 (by rw [e1]; exact hF.1), fun q g1 g2 => by rw [e1, hF.2 q (Nat.lt_of_lt_of_le g1 hS.1) g2]; exact hS.2.1 q g1 g2, fun q hq => by
      rcases List.mem_append.mp hq with h | h
      · exact hS.2.2 q h
      · exact hL q h⟩ (by omega) (by omega) hl
  obtain ⟨t2, a1, b1⟩ := K T' rfl X'
  refine ⟨t2, hgo t2 ?_, b1⟩
  have ee : (v'.map (pw_tv w)).toList ++ st.map (pw_tv w) = (v'.toList ++ st).map (pw_tv w) := by cases v' <;> rfl
  show Steps p.tables e below (T'.setTop (F0 m (pc + 3) ls ((v'.map (pw_tv w)).toList ++ st.map (pw_tv w)))) t2
  rw [ee]
  exact a1
def pw_Y (y : MethodName) (maxL n : Nat) : Prop := y.cls ≠ "java/lang/invoke/MethodHandle" ∧ y.cls ≠ "java/lang/invoke/VarHandle" ∧ (parseMethodDescriptor y.desc).map (fun d => d.parameters.length) = some n ∧ maxL ≤ 21
def pw_MV (own : String) (idx : Nat) (μ' : PMI) (ci n : Nat) : Prop := pw_Y μ'.1 μ'.2.2.1 n ∧ (∃ (T : u_T) (N : Nat), vwCl[ci]? = some (μ'.1.cls, T, N)) ∧ Cond.code μ'.1 μ'.2.1 μ'.2.2.1 μ'.2.2.2 ∈ pw_gw ∧ Cond.methodLink own idx μ'.1 ∈ pw_gw ∧ Cond.instanceMethod μ'.1 ∈ pw_gw ∧ Cond.selects μ'.1.cls μ'.1 μ'.1 ∈ pw_gw ∧ Cond.initialized μ'.1.cls ∈ pw_gw
def pw_MS (own : String) (idx : Nat) (μ' : PMI) (n : Nat) : Prop := pw_Y μ'.1 μ'.2.2.1 n ∧ Cond.code μ'.1 μ'.2.1 μ'.2.2.1 μ'.2.2.2 ∈ pw_gw ∧ Cond.methodLink own idx μ'.1 ∈ pw_gw ∧ Cond.static μ'.1 ∈ pw_gw ∧ Cond.initialized μ'.1.cls ∈ pw_gw
def pw_MI (own : String) (idx : Nat) (μ' : PMI) (n : Nat) : Prop := pw_Y μ'.1 μ'.2.2.1 n ∧ μ'.1.name = "<init>" ∧ μ'.2.2.2 = none ∧ Cond.code μ'.1 μ'.2.1 μ'.2.2.1 none ∈ pw_gw ∧ Cond.methodLink own idx μ'.1 ∈ pw_gw ∧ Cond.instanceMethod μ'.1 ∈ pw_gw ∧ Cond.initialized μ'.1.cls ∈ pw_gw
def pw_MN (own : String) (idx : Nat) (μ' : PMI) (n : Nat) : Prop := pw_Y μ'.1 μ'.2.2.1 n ∧ μ'.1.name = "<init>" ∧ μ'.2.2.2 = none ∧ Cond.code μ'.1 μ'.2.1 μ'.2.2.1 none ∈ pw_gw ∧ (∃ host : String, Cond.methodLinkNest own idx μ'.1 host ∈ pw_nest) ∧ Cond.instanceMethod μ'.1 ∈ pw_gw ∧ Cond.initialized μ'.1.cls ∈ pw_gw
theorem pw_wsgood {μ' : PMI} (h : Cond.code μ'.1 μ'.2.1 μ'.2.2.1 μ'.2.2.2 ∈ pw_gw) : GoodIn pw_gw (pw_ws μ') := pw_good fun x hx => by
  rcases List.mem_cons.mp hx with rfl | hx
  · exact h
  · exact hx
theorem pw_stk (w : PWd) (as st : List PV) (a : Nat) : (as.reverse ++ .inr (some a) :: st).map (pw_tv w) = (as.map (pw_tv w)).reverse ++ .ref (pw_ad w a) :: st.map (pw_tv w) := by
  rw [List.map_append, List.map_reverse, List.map_cons]
  rfl
theorem PW.invV {idx ci n a kc' ks' : Nat} {μ' : PMI} {as st0 : List PV} {post' : PPost} (hd : decode μ.2.1 pc = .ok (.invokevirtual idx, 3)) (hm : pw_MV μ.1.cls idx μ' ci n) (hc : PC sc μ' d kc' ks' (.inr (some a) :: as) Γ I R post') (hΓ : Γ[a]? = some (.inl ci)) (hn : as.length = n) (hst : st0 = as.reverse ++ .inr (some a) :: st) (hr : st.length ≤ 8)
    (k : ∀ (v : Option PV) (Γ' : List PTy) (I' : PIm) (R' : PRm), post' v Γ' I' R' → PW sc μ (d + 1) kc ks post (pc + 3) L (v.toList ++ st) Γ' I' R') : PW sc μ (d + 1) (kc + kc') (ks + ks') post pc L st0 Γ I R := by
  intro w p l e RM s m args below meth c Q C fin H locs cells slots ls hR hS h1 h2 hl
  subst hst
  obtain ⟨hx, hb, hml, hown, hts, hnm, ⟨hf1, hf2⟩, hWK, hRO⟩ := id C
  obtain ⟨⟨y1, y2, y3, y4⟩, ⟨T, N, hcl⟩, m1, m2, m3, m4, m5⟩ := hm
  refine pw_after (kc' := kc') (ks' := ks') (va_runV (As := as.map (pw_tv w)) (b := pw_ad w a) (own := μ.1.cls) (C := μ'.1.cls) (Ts := pw_gw) ⟨hx, hb, hml, hown, hts⟩ (hc w l)
    ⟨callB_of n hts (pw_wsgood m1) rfl rfl rfl (hts _ m5) (hts _ m2) ⟨y1, y2, y3⟩ ⟨by show d + 1 + 1 ≤ _; exact hf1, by show 8 + (μ'.2.2.1 + 11) + 40 * (d + 1) ≤ _; omega⟩, hts _ m3, hts _ m4⟩
    ⟨pw_blind, va_recv hWK.1 (hR.P hΓ) (ci := ci) (q0 := 0) hcl rfl, fun U hU hW => ⟨rfl, pw_WK.warm hW hWK, by rw [hU]; exact hRO.go hS hW.alike, by rw [hU]; exact hR⟩⟩
    rfl (by rw [List.length_map]; exact hn) hl.2.1 (pw_stk w as st a) (by rw [show 2 * (F0 m pc ls _).monitorRoom = 0 from rfl, pw_cats]; omega) hd ⟨by omega, by omega⟩) C fin hS h1 h2 hl k
theorem PW.invS {idx n kc' ks' : Nat} {μ' : PMI} {as st0 : List PV} {post' : PPost} (hd : decode μ.2.1 pc = .ok (.invokestatic idx, 3)) (hm : pw_MS μ.1.cls idx μ' n) (hc : PC sc μ' d kc' ks' as Γ I R post') (hn : as.length = n) (hst : st0 = as.reverse ++ st) (hr : st.length ≤ 8)
    (k : ∀ (v : Option PV) (Γ' : List PTy) (I' : PIm) (R' : PRm), post' v Γ' I' R' → PW sc μ (d + 1) kc ks post (pc + 3) L (v.toList ++ st) Γ' I' R') : PW sc μ (d + 1) (kc + kc') (ks + ks') post pc L st0 Γ I R := by
  intro w p l e RM s m args below meth c Q C fin H locs cells slots ls hR hS h1 h2 hl
  subst hst
  obtain ⟨hx, hb, hml, hown, hts, hnm, ⟨hf1, hf2⟩, hWK, hRO⟩ := id C
  obtain ⟨⟨y1, y2, y3, y4⟩, m1, m2, m3, m4⟩ := hm
  refine pw_after (kc' := kc') (ks' := ks') (va_runS (As := as.map (pw_tv w)) (own := μ.1.cls) (Ts := pw_gw) ⟨hx, hb, hml, hown, hts⟩ (hc w l)
    ⟨callB_of n hts (pw_wsgood m1) rfl rfl rfl (hts _ m4) (hts _ m2) ⟨y1, y2, y3⟩ ⟨by show d + 1 + 1 ≤ _; exact hf1, by show 8 + (μ'.2.2.1 + 11) + 40 * (d + 1) ≤ _; omega⟩, hts _ m3⟩
    ⟨pw_blind, fun U hU hW => ⟨rfl, pw_WK.warm hW hWK, by rw [hU]; exact hRO.go hS hW.alike, by rw [hU]; exact hR⟩⟩
    rfl (by rw [List.length_map]; exact hn) hl.2.1 (by show (as.reverse ++ st).map (pw_tv w) = _; rw [List.map_append, List.map_reverse]) (by rw [show 2 * (F0 m pc ls _).monitorRoom = 0 from rfl, pw_cats]; omega) hd ⟨by omega, by omega⟩) C fin hS h1 h2 hl k
theorem PW.invI {idx n a kc' ks' : Nat} {μ' : PMI} {as st0 : List PV} {post' : PPost} (hd : decode μ.2.1 pc = .ok (.invokespecial idx, 3)) (hm : pw_MI μ.1.cls idx μ' n) (hc : PC sc μ' d kc' ks' (.inr (some a) :: as) Γ I R post') (hn : as.length = n) (hst : st0 = as.reverse ++ .inr (some a) :: st) (hr : st.length ≤ 8)
    (k : ∀ (v : Option PV) (Γ' : List PTy) (I' : PIm) (R' : PRm), post' v Γ' I' R' → PW sc μ (d + 1) kc ks post (pc + 3) L (v.toList ++ st) Γ' I' R') : PW sc μ (d + 1) (kc + kc') (ks + ks') post pc L st0 Γ I R := by
  intro w p l e RM s m args below meth c Q C fin H locs cells slots ls hR hS h1 h2 hl
  subst hst
  obtain ⟨hx, hb, hml, hown, hts, hnm, ⟨hf1, hf2⟩, hWK, hRO⟩ := id C
  obtain ⟨⟨y1, y2, y3, y4⟩, yn, yr, m1, m2, m3, m4⟩ := hm
  have hG : GoodIn pw_gw (pw_ws μ') := pw_wsgood (by rw [yr]; exact m1)
  refine pw_after (kc' := kc') (ks' := ks') (va_runI (As := as.map (pw_tv w)) (b := pw_ad w a) (own := μ.1.cls) (Ts := pw_gw) ⟨hx, hb, hml, hown, hts⟩ (hc w l)
    ⟨callB_of (ws' := pw_gw) n hts hG (by rw [pw_ws, yr]) rfl rfl (hts _ m4) (hts _ m2) ⟨y1, y2, y3⟩ ⟨by show d + 1 + 1 ≤ _; exact hf1, by show 8 + (μ'.2.2.1 + 11) + 40 * (d + 1) ≤ _; omega⟩, yn, hts _ m3⟩
    ⟨pw_blind, fun U hU hW => ⟨rfl, pw_WK.warm hW hWK, by rw [hU]; exact hRO.go hS hW.alike, by rw [hU]; exact hR⟩⟩
    rfl (by rw [List.length_map]; exact hn) hl.2.1 (pw_stk w as st a) (by rw [show 2 * (F0 m pc ls _).monitorRoom = 0 from rfl, pw_cats]; omega) hd ⟨by omega, by omega⟩) C fin hS h1 h2 hl k
theorem PW.invN {idx n a kc' ks' : Nat} {μ' : PMI} {as st0 : List PV} {post' : PPost} (hd : decode μ.2.1 pc = .ok (.invokespecial idx, 3)) (hm : pw_MN μ.1.cls idx μ' n) (hc : PC sc μ' d kc' ks' (.inr (some a) :: as) Γ I R post') (hn : as.length = n) (hst : st0 = as.reverse ++ .inr (some a) :: st) (hr : st.length ≤ 8)
    (k : ∀ (v : Option PV) (Γ' : List PTy) (I' : PIm) (R' : PRm), post' v Γ' I' R' → PW sc μ (d + 1) kc ks post (pc + 3) L (v.toList ++ st) Γ' I' R') : PW sc μ (d + 1) (kc + kc') (ks + ks') post pc L st0 Γ I R := by
  intro w p l e RM s m args below meth c Q C fin H locs cells slots ls hR hS h1 h2 hl
  subst hst
  obtain ⟨hx, hb, hml, hown, hts, hnm, ⟨hf1, hf2⟩, hWK, hRO⟩ := id C
  obtain ⟨⟨y1, y2, y3, y4⟩, yn, yr, m1, ⟨host, m2⟩, m3, m4⟩ := hm
  have hG : GoodIn pw_gw (pw_ws μ') := pw_wsgood (by rw [yr]; exact m1)
  refine pw_after (kc' := kc') (ks' := ks') (va_runIN (As := as.map (pw_tv w)) (b := pw_ad w a) (own := μ.1.cls) (Ts := pw_gw) ⟨hx, hb, hml, hown, hts⟩ (hc w l)
    ⟨va_cnB (ws' := pw_gw) n hts hG (by rw [pw_ws, yr]) rfl rfl (hWK.2.1 _ m2) (hts _ m4) ⟨y1, y2, y3⟩ ⟨by show d + 1 + 1 ≤ _; exact hf1, by show 8 + (μ'.2.2.1 + 11) + 40 * (d + 1) ≤ _; omega⟩, yn, hts _ m3⟩
    ⟨pw_blind, fun U hU hW => ⟨rfl, pw_WK.warm hW hWK, by rw [hU]; exact hRO.go hS hW.alike, by rw [hU]; exact hR⟩⟩
    rfl (by rw [List.length_map]; exact hn) hl.2.1 (pw_stk w as st a) (by rw [show 2 * (F0 m pc ls _).monitorRoom = 0 from rfl, pw_cats]; omega) hd ⟨by omega, by omega⟩) C fin hS h1 h2 hl k
theorem PW.obj {idx a : Nat} (hd : decode μ.2.1 pc = .ok (.invokespecial idx, 3)) (hw : Cond.methodLink μ.1.cls idx Lib.objectInit ∈ pw_gw ∧ Cond.instanceMethod Lib.objectInit ∈ pw_gw ∧ Cond.code Lib.objectInit ⟨#[0xb1]⟩ 1 none ∈ pw_gw) (hr : st.length ≤ 8) (k : PW sc μ d kc ks post (pc + 3) L st Γ I R) : PW sc μ d kc ks post pc L (.inr (some a) :: st) Γ I R := by
  intro w p l e RM s m args below meth c Q C fin H locs cells slots ls hR hS h1 h2 hl
  have hts := C.2.2.2.2.1
  have hf := C.2.2.2.2.2.2.1
  exact W.objInit C.1 C.2.1 C.2.2.2.1 (hts _ hw.1) (hts _ hw.2.1) (hts _ hw.2.2) rfl (hl.2.1.trans C.2.2.1.symm) rfl hd (by omega) (by rw [show 2 * (F0 m pc ls _).monitorRoom = 0 from rfl, pw_cats]; omega) (k w p l e RM s m args below meth c Q C fin H locs cells slots ls hR hS h1 h2 hl)
/-! a contract out of a walk -/
theorem PC.ofPW {av : List PV} (hy : plainName μ.1.cls = true) (hn : av.length ≤ μ.2.2.1) (k : PW sc μ d kc ks post 0 (pw_L0 av μ.2.2.1) [] Γ I R) : PC sc μ d kc ks av Γ I R post := by
  intro w l
  refine Met.ofW (cc := μ.2.1) (maxL := μ.2.2.1) (ret := μ.2.2.2) hy rfl ?_
  intro p e s m args below meth c s₁ B hml hv
  obtain ⟨rfl, hWK, hRO, hRep⟩ := hv
  have hts := atoms_spec (ws := pw_ws μ) B.pre
  have hown : s.vm.findClass μ.1.cls = some m.cls := findClass_of_methodNamed B.named
  have hnm : meth.name = μ.1.name := (name_of_methodNamed B.named B.method).1
  have hlocks := B.notSynchronized
  rw [lg_entry_eq]
  refine k w p l e (headSpec (pw_ws μ) (pw_rm d kc ks)).room s m _ below meth c _ ⟨B.exec, B.bytes, hml, hown, fun x hx => hts x (List.mem_cons_of_mem _ hx), hnm, ⟨Nat.le_refl _, Nat.le_refl _⟩, hWK, hRO⟩ ?_ s.heap [] 0 0 _ hRep va_S.rf (by show 0 + kc ≤ kc; omega) (by show 0 + ks ≤ ks; omega) (pw_L.entry hn)
  intro v Γ' I' R' H' locs' cells' slots' pc' ls' hp hR' hS' hc' hs' hret
  refine W.widen (k := kc) (n := ks) hc' hs' ?_
  match v, hret with
  | none, hret =>
    exact W.vret B.exec B.bytes (B.returns.trans hret.2) (fun t ht hW => ⟨⟨none, Γ', I', R', rfl, hp, by rw [ht]; exact hR'⟩, hS'.F ht⟩) hS'.2.2 hret.1
  | some (.inl z), hret =>
    rcases hret.2 with h | ⟨h, hz⟩
    · exact W.iret B.exec B.bytes (B.returns.trans h) (fun t ht hW => ⟨⟨some (.inl z), Γ', I', R', rfl, hp, by rw [ht]; exact hR'⟩, hS'.F ht⟩) hS'.2.2 hret.1
    · exact W.zret B.exec B.bytes (B.returns.trans h) (pw_fit_bool (t := .boolean) rfl hz).1 (fun t ht hW => ⟨⟨some (.inl z), Γ', I', R', rfl, hp, by rw [ht]; exact hR'⟩, hS'.F ht⟩) hS'.2.2 hret.1
  | some (.inr _), hret => exact absurd hret id
end PWCALLS
end
section
section PWCOPY
variable {sc : PSc} {μ : PMI} {d kc ks : Nat} {post : PPost} {pc : Nat} {L : List (Option PV)} {st : List PV} {Γ : List PTy} {I : PIm} {R : PRm}
def pw_cp (I : PIm) (a0 a1 : Nat) (n : Int) : PIm := fun b j => if b = a1 ∧ 0 ≤ j ∧ j < n then I a0 j else I b j
theorem PW.copy {idx a0 a1 n0 n1 : Nat} {n : Int} (hd : decode μ.2.1 pc = .ok (.invokestatic idx, 3)) (hwd : Cond.methodLink μ.1.cls idx arraycopyName ∈ pw_gw ∧ Cond.native arraycopyName ∈ pw_gw ∧ Cond.static arraycopyName ∈ pw_gw ∧ Cond.initialized "java/lang/System" ∈ pw_gw) (g0 : Γ[a0]? = some (.inr (0, n0))) (g1 : Γ[a1]? = some (.inr (0, n1))) (hn : 0 ≤ n) (hn0 : n ≤ n0) (hn1 : n ≤ n1) (hb0 : n ≤ 2147483647) (hst : st = []) (k : PW sc μ d kc ks post (pc + 3) L st Γ (pw_cp I a0 a1 n) R) : PW sc μ d kc ks post pc L (.inl n :: .inl 0 :: .inr (some a1) :: .inl 0 :: .inr (some a0) :: st) Γ I R := by
  subst hst
  intro w p l e RM s m args below meth c Q C fin H locs cells slots ls hR hS h1 h2 hl
  have hts := C.2.2.2.2.1
  have hK := C.2.2.2.2.2.2.2.1.1
  have hf := C.2.2.2.2.2.2.1
  have hr : Rg n := by omega
  have en : (Int32.ofInt n).toNatClampNeg = n.toNat := by
    show (Int32.ofInt n).toInt.toNat = n.toNat
    rw [rg_toInt hr]
  have c0 := hR.2.2 a0 _ g0
  rw [← hR.ad g0] at c0
  have c1 := hR.2.2 a1 _ g1
  rw [← hR.ad g1] at c1
  obtain ⟨-, k0, hk0, cm0, hkk0⟩ := (hK.2 0 _ rfl).1 n0 (fun j => .int (Int32.ofInt (I a0 (j : Int))))
  obtain ⟨-, k1, hk1, cm1, hkk1⟩ := (hK.2 0 _ rfl).1 n1 (fun j => .int (Int32.ofInt (I a1 (j : Int))))
  have hnw : nativeFrameWords "java/lang/System" "arraycopy" 5 + 11 ≤ 40 := by decide +kernel
  intro T hT X
  obtain ⟨vm', X', step⟩ := X.arraycopy C.1 C.2.2.2.1 (hts _ hwd.1) (hts _ hwd.2.1) (hts _ hwd.2.2.1) (hts _ hwd.2.2.2) (src := pw_ad w a0) (dst := pw_ad w a1)
    (cs := vp_cell w.2.2.2.2.1 (n0, .inl (fun j => Int32.ofInt (I a0 (j : Int))))) (cd := vp_cell w.2.2.2.2.1 (n1, .inl (fun j => Int32.ofInt (I a1 (j : Int))))) (srcPos := 0) (destPos := 0) (n := Int32.ofInt n)
    (by rw [hT]; exact c0) (by rw [hT]; exact c1) (fun _ h => by cases h) (fun _ h => by cases h) (fun h => by cases h) (fun h => by cases h) hk0 hk1 hkk0 hkk1 (by rfl) (by decide) (by decide) (fun h => by have := (rg_lt hr (by decide : Rg 0)).mp h; omega)
    (by rw [rg_toInt hr]; show ¬ (0 : Int) + n > ((arrV _ n0 _).slots.size : Int); rw [arrV_size]; omega)
    (by rw [rg_toInt hr]; show ¬ (0 : Int) + n > ((arrV _ n1 _).slots.size : Int); rw [arrV_size]; omega)
    (fun vm₁ _ i hi => by
      rw [en] at hi
      have e : (vp_cell w.2.2.2.2.1 (n0, .inl (fun j => Int32.ofInt (I a0 (j : Int))))).slots.getD ((0 : Int32).toNatClampNeg + i) .null = .int (Int32.ofInt (I a0 (i : Int))) := by
        rw [show (0 : Int32).toNatClampNeg + i = i from Nat.zero_add i]
        show (arrV _ n0 (fun j => .int (Int32.ofInt (I a0 (j : Int))))).slots.getD _ _ = _
        rw [Array.getD_eq_getD_getElem?, arrV_read _ _ (by omega)]
        rfl
      rw [e]
      exact ⟨rfl, trivial⟩)
    (g := F0 m pc ls [.int (Int32.ofInt n), .int 0, .ref (pw_ad w a1), .int 0, .ref (pw_ad w a0)]) rfl (hl.2.1.trans C.2.2.1.symm) (rest := []) rfl (by rw [C.2.1]; exact hd) (by omega) (by show 2 * 0 + 0 + (nativeFrameWords "java/lang/System" "arraycopy" 5 + 11) ≤ _; omega)
  have e1 : copied (vp_cell w.2.2.2.2.1 (n0, .inl (fun j => Int32.ofInt (I a0 (j : Int))))) (vp_cell w.2.2.2.2.1 (n1, .inl (fun j => Int32.ofInt (I a1 (j : Int))))) 0 0 (Int32.ofInt n) = vp_cell w.2.2.2.2.1 (n1, .inl (fun j => Int32.ofInt (pw_cp I a0 a1 n a1 (j : Int)))) := by
    have := va_copied (fun z => .int z) w.2.2.2.2.1 w.2.2.2.2.1 (n0 := n0) (n1 := n1) (sp := 0) (dp := 0) (n := n.toNat) (fun j => Int32.ofInt (I a0 (j : Int))) (fun j => Int32.ofInt (I a1 (j : Int))) (by omega)
    unfold copied
    rw [en, show (0 : Int32).toNatClampNeg = 0 from rfl]
    refine this.trans ?_
    rw [vp_cell_i]
    congr 1
    funext j
    congr 1
    unfold va_cpy pw_cp
    by_cases hj : 0 ≤ j ∧ j < 0 + n.toNat
    · rw [if_pos hj, if_pos ⟨rfl, by omega, by omega⟩]
      simp
    · rw [if_neg hj, if_neg (fun q => hj (by omega))]
  rw [e1] at X' step
  have hlt : pw_ad w a1 < H.size := (Array.getElem?_eq_some_iff.mp c1).1
  generalize hH1 : H.setIfInBounds (pw_ad w a1) (vp_cell w.2.2.2.2.1 (n1, .inl (fun j => Int32.ofInt (pw_cp I a0 a1 n a1 (j : Int))))) = H1 at *
  have hheap : ((T.setVm vm').setCell (pw_ad w a1) (vp_cell w.2.2.2.2.1 (n1, .inl (fun j => Int32.ofInt (pw_cp I a0 a1 n a1 (j : Int)))))).heap = H1 := by rw [← hH1, ← hT]; rfl
  have oq : ∀ q : Nat, q ≠ pw_ad w a1 → H1[q]? = H[q]? := fun q hq => by rw [← hH1]; simp [Array.getElem?_setIfInBounds, Ne.symm hq]
  have z : H1.size = H.size := by rw [← hH1]; simp
  have K := k w p l e RM s m args below meth c Q C fin H1 _ cells slots ls (hR.store g1 (by show H1[pw_ad w a1]? = some _; rw [← hH1]; simp [Array.getElem?_setIfInBounds, hlt]) z oq (fun q hq => by funext j; simp [pw_cp, hq]) (fun _ _ => rfl))
    (⟨by rw [z]; exact hS.1, fun q f1 f2 => by rw [oq q (fun h => f2 (by rw [h]; exact pw_inA hR g1))]; exact hS.2.1 q f1 f2, fun q hq => by
      rcases List.mem_append.mp hq with h | h
      · exact hS.2.2 q h
      · obtain ⟨z', -, hz'⟩ := List.mem_map.mp h
        rw [← hz']
        exact pw_inA hR g1⟩) h1 h2 hl _ hheap X'
  obtain ⟨t, a1', b1⟩ := K
  exact ⟨t, step t a1', b1⟩
end PWCOPY
end
section
theorem pw_mem (i : Nat) {w : Cond} (h : lw_tbl[i]? = some w) (hg : goodWord w = true) : w ∈ pw_gw := List.mem_filter.mpr ⟨List.mem_of_getElem? h, hg⟩
theorem pw_memN (i : Nat) {w : Cond} (h : lw_tbl[i]? = some w) (hg : pw_isNest w = true) : w ∈ pw_nest := List.mem_filter.mpr ⟨List.mem_of_getElem? h, hg⟩
/-! method infos -/
abbrev mX10_init : PMI := (yX10_init, cX10_init, 2, none)
abbrev mX6_init : PMI := (yX6_init, cX6_init, 1, none)
abbrev mX7_init : PMI := (yX7_init, cX7_init, 1, none)
abbrev mX5_init : PMI := (yX5_init, cX5_init, 1, none)
abbrev mX4_init : PMI := (yX4_init, cX4_init, 1, none)
abbrev mX4_setFirst : PMI := (yX4_setFirst, cX4_setFirst, 1, none)
abbrev mX4_set : PMI := (yX4_set, cX4_set, 4, none)
abbrev mX3_init : PMI := (yX3_init, cX3_init, 2, none)
abbrev mX2_init : PMI := (yX2_init, cX2_init, 1, none)
abbrev mX1_init : PMI := (yX1_init, cX1_init, 1, none)
abbrev mX0_init : PMI := (yX0_init, cX0_init, 1, none)
abbrev mX8_init : PMI := (yX8_init, cX8_init, 4, none)
abbrev mJ9_max_7cf53 : PMI := (yJ9_max_7cf53, cJ9_max_7cf53, 2, (some .int))
abbrev mX8_forgetAll : PMI := (yX8_forgetAll, cX8_forgetAll, 1, none)
abbrev mX9_init : PMI := (yX9_init, cX9_init, 1, none)
abbrev mX10_startAsTold : PMI := (yX10_startAsTold, cX10_startAsTold, 2, none)
abbrev mX7_startAs : PMI := (yX7_startAs, cX7_startAs, 2, none)
abbrev mX5_copyFrom : PMI := (yX5_copyFrom, cX5_copyFrom, 2, none)
abbrev mX3_forgetAll : PMI := (yX3_forgetAll, cX3_forgetAll, 1, none)
abbrev mX10_forgetSeen : PMI := (yX10_forgetSeen, cX10_forgetSeen, 1, none)
abbrev mX10_type : PMI := (yX10_type, cX10_type, 2, (some .int))
abbrev mX6_isFull : PMI := (yX6_isFull, cX6_isFull, 1, (some .boolean))
abbrev mX6_append : PMI := (yX6_append, cX6_append, 2, none)
abbrev mX10_clear : PMI := (yX10_clear, cX10_clear, 2, (some .int))
abbrev mX10_machine : PMI := (yX10_machine, cX10_machine, 3, (some .int))
abbrev mX6_readAll : PMI := (yX6_readAll, cX6_readAll, 3, (some .int))
abbrev mX9_forgetAll : PMI := (yX9_forgetAll, cX9_forgetAll, 1, none)
abbrev mX5_forgetAll : PMI := (yX5_forgetAll, cX5_forgetAll, 1, none)
abbrev mX6_peek : PMI := (yX6_peek, cX6_peek, 1, (some .int))
abbrev mX6_readItem : PMI := (yX6_readItem, cX6_readItem, 2, (some .boolean))
abbrev mX6_readFact : PMI := (yX6_readFact, cX6_readFact, 5, (some .boolean))
abbrev mX6_readTerm : PMI := (yX6_readTerm, cX6_readTerm, 6, (some .int))
abbrev mX8_make : PMI := (yX8_make, cX8_make, 6, (some .int))
abbrev mX8_has : PMI := (yX8_has, cX8_has, 2, (some .boolean))
abbrev mX8_append : PMI := (yX8_append, cX8_append, 5, (some .int))
abbrev mX6_accept : PMI := (yX6_accept, cX6_accept, 2, (some .boolean))
abbrev mX9_addFact : PMI := (yX9_addFact, cX9_addFact, 4, none)
abbrev mX6_readInstruction : PMI := (yX6_readInstruction, cX6_readInstruction, 7, (some .boolean))
abbrev mX5_codeOf : PMI := (yX5_codeOf, cX5_codeOf, 4, (some .int))
abbrev mX5_set : PMI := (yX5_set, cX5_set, 3, none)
abbrev mX8_makeLasting : PMI := (yX8_makeLasting, cX8_makeLasting, 1, none)
abbrev mX10_instruction : PMI := (yX10_instruction, cX10_instruction, 4, (some .int))
abbrev mX5_has : PMI := (yX5_has, cX5_has, 2, (some .boolean))
abbrev mX5_codeAt : PMI := (yX5_codeAt, cX5_codeAt, 2, (some .int))
abbrev mX5_kindOf : PMI := (yX5_kindOf, cX5_kindOf, 1, (some .int))
abbrev mX5_targetOf : PMI := (yX5_targetOf, cX5_targetOf, 1, (some .int))
abbrev mX5_firstOf : PMI := (yX5_firstOf, cX5_firstOf, 1, (some .int))
abbrev mX5_secondOf : PMI := (yX5_secondOf, cX5_secondOf, 1, (some .int))
abbrev mX10_puts : PMI := (yX10_puts, cX10_puts, 7, (some .int))
abbrev mX10_isInstruction : PMI := (yX10_isInstruction, cX10_isInstruction, 4, (some .boolean))
abbrev mX10_isRegister : PMI := (yX10_isRegister, cX10_isRegister, 1, (some .boolean))
abbrev mX3_remember : PMI := (yX3_remember, cX3_remember, 2, none)
abbrev mX3_dropOldest : PMI := (yX3_dropOldest, cX3_dropOldest, 3, none)
abbrev mX7_copyFrom : PMI := (yX7_copyFrom, cX7_copyFrom, 2, none)
abbrev mX4_copyFrom : PMI := (yX4_copyFrom, cX4_copyFrom, 2, none)
abbrev mX10_leaves : PMI := (yX10_leaves, cX10_leaves, 2, (some .int))
abbrev mX9_has : PMI := (yX9_has, cX9_has, 2, (some .boolean))
abbrev mX10_tells : PMI := (yX10_tells, cX10_tells, 4, (some .int))
abbrev mX4_is : PMI := (yX4_is, cX4_is, 4, (some .boolean))
abbrev mX10_undo : PMI := (yX10_undo, cX10_undo, 1, (some .int))
abbrev mX3_restoreLatest : PMI := (yX3_restoreLatest, cX3_restoreLatest, 2, none)
abbrev mX10_fact : PMI := (yX10_fact, cX10_fact, 2, (some .int))
abbrev mX8_dropPassing : PMI := (yX8_dropPassing, cX8_dropPassing, 1, none)
abbrev mX9_firstOf : PMI := (yX9_firstOf, cX9_firstOf, 2, (some .int))
abbrev mX9_secondOf : PMI := (yX9_secondOf, cX9_secondOf, 2, (some .int))
abbrev mX10_judge : PMI := (yX10_judge, cX10_judge, 3, (some .int))
abbrev mX1_closeBy : PMI := (yX1_closeBy, cX1_closeBy, 4, none)
abbrev mJ9_min_7cf53 : PMI := (yJ9_min_7cf53, cJ9_min_7cf53, 2, (some .int))
abbrev mX1_merge : PMI := (yX1_merge, cX1_merge, 6, none)
abbrev mX1_spread : PMI := (yX1_spread, cX1_spread, 3, none)
abbrev mX1_spreadOnce : PMI := (yX1_spreadOnce, cX1_spreadOnce, 5, (some .boolean))
abbrev mJ7_fill_53178 : PMI := (yJ7_fill_53178, cJ7_fill_53178, 4, none)
abbrev mX1_findMatch : PMI := (yX1_findMatch, cX1_findMatch, 5, (some .int))
abbrev mX1_same : PMI := (yX1_same, cX1_same, 3, (some .boolean))
abbrev mX1_rulesOut : PMI := (yX1_rulesOut, cX1_rulesOut, 4, (some .boolean))
abbrev mX1_assume : PMI := (yX1_assume, cX1_assume, 3, none)
abbrev mX10_ruled : PMI := (yX10_ruled, cX10_ruled, 1, (some .int))
abbrev mX10_equal : PMI := (yX10_equal, cX10_equal, 4, (some .int))
abbrev mX10_goThrough : PMI := (yX10_goThrough, cX10_goThrough, 2, none)
abbrev mX2_goPlain : PMI := (yX2_goPlain, cX2_goPlain, 8, none)
abbrev mX2_headOf : PMI := (yX2_headOf, cX2_headOf, 1, (some .int))
abbrev mX2_goPiped : PMI := (yX2_goPiped, cX2_goPiped, 10, none)
abbrev mX2_waitFrom : PMI := (yX2_waitFrom, cX2_waitFrom, 5, (some .int))
abbrev mX2_isReady : PMI := (yX2_isReady, cX2_isReady, 5, (some .boolean))
abbrev mX2_showsMaker : PMI := (yX2_showsMaker, cX2_showsMaker, 5, (some .boolean))
abbrev mX4_shows : PMI := (yX4_shows, cX4_shows, 2, (some .boolean))
abbrev mX2_readBy : PMI := (yX2_readBy, cX2_readBy, 5, (some .int))
abbrev mX2_lastOf : PMI := (yX2_lastOf, cX2_lastOf, 3, (some .int))
abbrev mX10_deep : PMI := (yX10_deep, cX10_deep, 3, (some .int))
abbrev mX8_depthOf : PMI := (yX8_depthOf, cX8_depthOf, 2, (some .int))
abbrev mX10_term : PMI := (yX10_term, cX10_term, 4, (some .int))
abbrev mX8_letterOf : PMI := (yX8_letterOf, cX8_letterOf, 6, (some .int))
abbrev mX8_signOf : PMI := (yX8_signOf, cX8_signOf, 1, (some .int))
abbrev mX10_step : PMI := (yX10_step, cX10_step, 2, (some .int))
abbrev mX2_stepAt : PMI := (yX2_stepAt, cX2_stepAt, 2, (some .int))
abbrev mX10_length : PMI := (yX10_length, cX10_length, 1, (some .int))
abbrev mX10_wrong : PMI := (yX10_wrong, cX10_wrong, 1, (some .int))
abbrev mX10_wrongBy : PMI := (yX10_wrongBy, cX10_wrongBy, 5, (some .int))
abbrev mX2_differing : PMI := (yX2_differing, cX2_differing, 3, (some .int))
abbrev mX10_needed : PMI := (yX10_needed, cX10_needed, 5, (some .int))
abbrev mX10_fewest : PMI := (yX10_fewest, cX10_fewest, 3, (some .int))
abbrev mX10_fewestOf : PMI := (yX10_fewestOf, cX10_fewestOf, 4, (some .int))
abbrev mJ6_bitCount_0f7a4 : PMI := (yJ6_bitCount_0f7a4, cJ6_bitCount_0f7a4, 1, (some .int))
abbrev mX10_broken : PMI := (yX10_broken, cX10_broken, 3, (some .int))
abbrev mX0_sizeBy : PMI := (yX0_sizeBy, cX0_sizeBy, 4, (some .int))
abbrev mX4_hidesNothing : PMI := (yX4_hidesNothing, cX4_hidesNothing, 2, (some .boolean))
abbrev mX0_seekOfSize : PMI := (yX0_seekOfSize, cX0_seekOfSize, 4, (some .boolean))
abbrev mX0_writeProgram : PMI := (yX0_writeProgram, cX0_writeProgram, 5, none)
abbrev mX0_numberAt : PMI := (yX0_numberAt, cX0_numberAt, 3, (some .int))
abbrev mX10_sees : PMI := (yX10_sees, cX10_sees, 2, (some .int))
abbrev mX10_forwardsBy : PMI := (yX10_forwardsBy, cX10_forwardsBy, 4, (some .int))
abbrev mX10_forget : PMI := (yX10_forget, cX10_forget, 2, (some .int))
abbrev mX10_unseen : PMI := (yX10_unseen, cX10_unseen, 1, (some .int))
abbrev mX10_keep : PMI := (yX10_keep, cX10_keep, 2, (some .int))
abbrev mX10_back : PMI := (yX10_back, cX10_back, 2, (some .int))
abbrev mX10_count : PMI := (yX10_count, cX10_count, 2, (some .int))
abbrev mX11_init : PMI := (yX11_init, cX11_init, 1, none)
abbrev mX11_begins : PMI := (yX11_begins, cX11_begins, 1, none)
abbrev mX11_laysConstants : PMI := (yX11_laysConstants, cX11_laysConstants, 2, none)
abbrev mX11_node : PMI := (yX11_node, cX11_node, 5, (some .int))
abbrev mX11_becomes : PMI := (yX11_becomes, cX11_becomes, 2, none)
abbrev mX11_type : PMI := (yX11_type, cX11_type, 2, (some .int))
abbrev mX11_in : PMI := (yX11_in, cX11_in, 3, (some .boolean))
abbrev mX11_clear : PMI := (yX11_clear, cX11_clear, 2, (some .int))
abbrev mX11_machine : PMI := (yX11_machine, cX11_machine, 5, (some .int))
abbrev mX11_takes : PMI := (yX11_takes, cX11_takes, 1, none)
abbrev mX11_item : PMI := (yX11_item, cX11_item, 1, (some .boolean))
abbrev mX11_readsFact : PMI := (yX11_readsFact, cX11_readsFact, 2, (some .boolean))
abbrev mX11_readsTerm : PMI := (yX11_readsTerm, cX11_readsTerm, 6, (some .int))
abbrev mX11_readsInstruction : PMI := (yX11_readsInstruction, cX11_readsInstruction, 4, (some .boolean))
abbrev mX11_instruction : PMI := (yX11_instruction, cX11_instruction, 3, (some .int))
abbrev mX11_its : PMI := (yX11_its, cX11_its, 3, (some .int))
abbrev mX11_fact : PMI := (yX11_fact, cX11_fact, 2, (some .int))
abbrev mX11_equalOf : PMI := (yX11_equalOf, cX11_equalOf, 4, (some .int))
abbrev mX11_laysSame : PMI := (yX11_laysSame, cX11_laysSame, 6, none)
abbrev mX11_has : PMI := (yX11_has, cX11_has, 2, (some .boolean))
abbrev mX11_joins : PMI := (yX11_joins, cX11_joins, 6, none)
abbrev mX11_areParted : PMI := (yX11_areParted, cX11_areParted, 3, (some .boolean))
abbrev mX11_isRuledOut : PMI := (yX11_isRuledOut, cX11_isRuledOut, 4, (some .boolean))
abbrev mX11_ruled : PMI := (yX11_ruled, cX11_ruled, 1, (some .int))
abbrev mX11_equal : PMI := (yX11_equal, cX11_equal, 4, (some .int))
abbrev mX11_isRegister : PMI := (yX11_isRegister, cX11_isRegister, 1, (some .boolean))
abbrev mX11_runsNow : PMI := (yX11_runsNow, cX11_runsNow, 1, none)
abbrev mX11_runs : PMI := (yX11_runs, cX11_runs, 3, none)
abbrev mX11_laysSteps : PMI := (yX11_laysSteps, cX11_laysSteps, 4, none)
abbrev mX11_mayGo : PMI := (yX11_mayGo, cX11_mayGo, 5, (some .boolean))
abbrev mX11_hasIt : PMI := (yX11_hasIt, cX11_hasIt, 6, (some .boolean))
abbrev mX11_latest : PMI := (yX11_latest, cX11_latest, 4, (some .int))
abbrev mX11_makes : PMI := (yX11_makes, cX11_makes, 3, (some .boolean))
abbrev mX11_isVisible : PMI := (yX11_isVisible, cX11_isVisible, 3, (some .boolean))
abbrev mX11_goes : PMI := (yX11_goes, cX11_goes, 6, none)
abbrev mX11_readBy : PMI := (yX11_readBy, cX11_readBy, 6, (some .int))
abbrev mX11_deep : PMI := (yX11_deep, cX11_deep, 3, (some .int))
abbrev mX11_depth : PMI := (yX11_depth, cX11_depth, 6, (some .int))
abbrev mX11_term : PMI := (yX11_term, cX11_term, 5, (some .int))
abbrev mX11_partOf : PMI := (yX11_partOf, cX11_partOf, 6, (some .int))
abbrev mX11_step : PMI := (yX11_step, cX11_step, 2, (some .int))
abbrev mX11_length : PMI := (yX11_length, cX11_length, 1, (some .int))
abbrev mX11_wrong : PMI := (yX11_wrong, cX11_wrong, 1, (some .int))
abbrev mX11_wrongBy : PMI := (yX11_wrongBy, cX11_wrongBy, 4, (some .int))
abbrev mX11_needed : PMI := (yX11_needed, cX11_needed, 3, (some .int))
abbrev mX11_ones : PMI := (yX11_ones, cX11_ones, 3, (some .int))
abbrev mX11_fewest : PMI := (yX11_fewest, cX11_fewest, 3, (some .int))
abbrev mX11_broken : PMI := (yX11_broken, cX11_broken, 4, (some .int))
abbrev mX11_breaker : PMI := (yX11_breaker, cX11_breaker, 3, (some .int))
abbrev mX11_breaks : PMI := (yX11_breaks, cX11_breaks, 5, (some .boolean))
abbrev mX11_unlike : PMI := (yX11_unlike, cX11_unlike, 3, (some .int))
abbrev mX11_puts : PMI := (yX11_puts, cX11_puts, 7, (some .int))
abbrev mX11_notes : PMI := (yX11_notes, cX11_notes, 2, none)
abbrev mX11_leaves : PMI := (yX11_leaves, cX11_leaves, 2, (some .int))
abbrev mX11_tells : PMI := (yX11_tells, cX11_tells, 4, (some .int))
abbrev mX11_undo : PMI := (yX11_undo, cX11_undo, 2, (some .int))
abbrev mX11_sees : PMI := (yX11_sees, cX11_sees, 3, (some .int))
abbrev mX11_forget : PMI := (yX11_forget, cX11_forget, 2, (some .int))
abbrev mX11_unseen : PMI := (yX11_unseen, cX11_unseen, 4, (some .int))
abbrev mX11_keep : PMI := (yX11_keep, cX11_keep, 3, (some .int))
abbrev mX11_back : PMI := (yX11_back, cX11_back, 3, (some .int))
abbrev mX11_count : PMI := (yX11_count, cX11_count, 2, (some .int))
abbrev mL_law : PMI := (yL_law, cL_law, 4, (some .boolean))
/-! code words -/
theorem cd_X10_init : Cond.code yX10_init cX10_init 2 none ∈ pw_gw := (pw_mem 78 (by decide +kernel) rfl)
theorem cd_X6_init : Cond.code yX6_init cX6_init 1 none ∈ pw_gw := (pw_mem 86 (by decide +kernel) rfl)
theorem cd_X7_init : Cond.code yX7_init cX7_init 1 none ∈ pw_gw := (pw_mem 104 (by decide +kernel) rfl)
theorem cd_X5_init : Cond.code yX5_init cX5_init 1 none ∈ pw_gw := (pw_mem 110 (by decide +kernel) rfl)
theorem cd_X4_init : Cond.code yX4_init cX4_init 1 none ∈ pw_gw := (pw_mem 128 (by decide +kernel) rfl)
theorem cd_X4_setFirst : Cond.code yX4_setFirst cX4_setFirst 1 none ∈ pw_gw := (pw_mem 133 (by decide +kernel) rfl)
theorem cd_X4_set : Cond.code yX4_set cX4_set 4 none ∈ pw_gw := (pw_mem 137 (by decide +kernel) rfl)
theorem cd_X3_init : Cond.code yX3_init cX3_init 2 none ∈ pw_gw := (pw_mem 172 (by decide +kernel) rfl)
theorem cd_X2_init : Cond.code yX2_init cX2_init 1 none ∈ pw_gw := (pw_mem 189 (by decide +kernel) rfl)
theorem cd_X1_init : Cond.code yX1_init cX1_init 1 none ∈ pw_gw := (pw_mem 215 (by decide +kernel) rfl)
theorem cd_X0_init : Cond.code yX0_init cX0_init 1 none ∈ pw_gw := (pw_mem 237 (by decide +kernel) rfl)
theorem cd_X8_init : Cond.code yX8_init cX8_init 4 none ∈ pw_gw := (pw_mem 245 (by decide +kernel) rfl)
theorem cd_J9_max_7cf53 : Cond.code yJ9_max_7cf53 cJ9_max_7cf53 2 (some .int) ∈ pw_gw := (pw_mem 249 (by decide +kernel) rfl)
theorem cd_X8_forgetAll : Cond.code yX8_forgetAll cX8_forgetAll 1 none ∈ pw_gw := (pw_mem 253 (by decide +kernel) rfl)
theorem cd_X9_init : Cond.code yX9_init cX9_init 1 none ∈ pw_gw := (pw_mem 306 (by decide +kernel) rfl)
theorem cd_X10_startAsTold : Cond.code yX10_startAsTold cX10_startAsTold 2 none ∈ pw_gw := (pw_mem 344 (by decide +kernel) rfl)
theorem cd_X7_startAs : Cond.code yX7_startAs cX7_startAs 2 none ∈ pw_gw := (pw_mem 348 (by decide +kernel) rfl)
theorem cd_X5_copyFrom : Cond.code yX5_copyFrom cX5_copyFrom 2 none ∈ pw_gw := (pw_mem 352 (by decide +kernel) rfl)
theorem cd_X3_forgetAll : Cond.code yX3_forgetAll cX3_forgetAll 1 none ∈ pw_gw := (pw_mem 360 (by decide +kernel) rfl)
theorem cd_X10_forgetSeen : Cond.code yX10_forgetSeen cX10_forgetSeen 1 none ∈ pw_gw := (pw_mem 364 (by decide +kernel) rfl)
theorem cd_X10_type : Cond.code yX10_type cX10_type 2 (some .int) ∈ pw_gw := (pw_mem 408 (by decide +kernel) rfl)
theorem cd_X6_isFull : Cond.code yX6_isFull cX6_isFull 1 (some .boolean) ∈ pw_gw := (pw_mem 412 (by decide +kernel) rfl)
theorem cd_X6_append : Cond.code yX6_append cX6_append 2 none ∈ pw_gw := (pw_mem 416 (by decide +kernel) rfl)
theorem cd_X10_clear : Cond.code yX10_clear cX10_clear 2 (some .int) ∈ pw_gw := (pw_mem 420 (by decide +kernel) rfl)
theorem cd_X10_machine : Cond.code yX10_machine cX10_machine 3 (some .int) ∈ pw_gw := (pw_mem 424 (by decide +kernel) rfl)
theorem cd_X6_readAll : Cond.code yX6_readAll cX6_readAll 3 (some .int) ∈ pw_gw := (pw_mem 428 (by decide +kernel) rfl)
theorem cd_X9_forgetAll : Cond.code yX9_forgetAll cX9_forgetAll 1 none ∈ pw_gw := (pw_mem 432 (by decide +kernel) rfl)
theorem cd_X5_forgetAll : Cond.code yX5_forgetAll cX5_forgetAll 1 none ∈ pw_gw := (pw_mem 437 (by decide +kernel) rfl)
theorem cd_X6_peek : Cond.code yX6_peek cX6_peek 1 (some .int) ∈ pw_gw := (pw_mem 441 (by decide +kernel) rfl)
theorem cd_X6_readItem : Cond.code yX6_readItem cX6_readItem 2 (some .boolean) ∈ pw_gw := (pw_mem 445 (by decide +kernel) rfl)
theorem cd_X6_readFact : Cond.code yX6_readFact cX6_readFact 5 (some .boolean) ∈ pw_gw := (pw_mem 449 (by decide +kernel) rfl)
theorem cd_X6_readTerm : Cond.code yX6_readTerm cX6_readTerm 6 (some .int) ∈ pw_gw := (pw_mem 453 (by decide +kernel) rfl)
theorem cd_X8_make : Cond.code yX8_make cX8_make 6 (some .int) ∈ pw_gw := (pw_mem 457 (by decide +kernel) rfl)
theorem cd_X8_has : Cond.code yX8_has cX8_has 2 (some .boolean) ∈ pw_gw := (pw_mem 461 (by decide +kernel) rfl)
theorem cd_X8_append : Cond.code yX8_append cX8_append 5 (some .int) ∈ pw_gw := (pw_mem 465 (by decide +kernel) rfl)
theorem cd_X6_accept : Cond.code yX6_accept cX6_accept 2 (some .boolean) ∈ pw_gw := (pw_mem 469 (by decide +kernel) rfl)
theorem cd_X9_addFact : Cond.code yX9_addFact cX9_addFact 4 none ∈ pw_gw := (pw_mem 473 (by decide +kernel) rfl)
theorem cd_X6_readInstruction : Cond.code yX6_readInstruction cX6_readInstruction 7 (some .boolean) ∈ pw_gw := (pw_mem 477 (by decide +kernel) rfl)
theorem cd_X5_codeOf : Cond.code yX5_codeOf cX5_codeOf 4 (some .int) ∈ pw_gw := (pw_mem 480 (by decide +kernel) rfl)
theorem cd_X5_set : Cond.code yX5_set cX5_set 3 none ∈ pw_gw := (pw_mem 484 (by decide +kernel) rfl)
theorem cd_X8_makeLasting : Cond.code yX8_makeLasting cX8_makeLasting 1 none ∈ pw_gw := (pw_mem 488 (by decide +kernel) rfl)
theorem cd_X10_instruction : Cond.code yX10_instruction cX10_instruction 4 (some .int) ∈ pw_gw := (pw_mem 492 (by decide +kernel) rfl)
theorem cd_X5_has : Cond.code yX5_has cX5_has 2 (some .boolean) ∈ pw_gw := (pw_mem 496 (by decide +kernel) rfl)
theorem cd_X5_codeAt : Cond.code yX5_codeAt cX5_codeAt 2 (some .int) ∈ pw_gw := (pw_mem 500 (by decide +kernel) rfl)
theorem cd_X5_kindOf : Cond.code yX5_kindOf cX5_kindOf 1 (some .int) ∈ pw_gw := (pw_mem 504 (by decide +kernel) rfl)
theorem cd_X5_targetOf : Cond.code yX5_targetOf cX5_targetOf 1 (some .int) ∈ pw_gw := (pw_mem 507 (by decide +kernel) rfl)
theorem cd_X5_firstOf : Cond.code yX5_firstOf cX5_firstOf 1 (some .int) ∈ pw_gw := (pw_mem 510 (by decide +kernel) rfl)
theorem cd_X5_secondOf : Cond.code yX5_secondOf cX5_secondOf 1 (some .int) ∈ pw_gw := (pw_mem 513 (by decide +kernel) rfl)
theorem cd_X10_puts : Cond.code yX10_puts cX10_puts 7 (some .int) ∈ pw_gw := (pw_mem 517 (by decide +kernel) rfl)
theorem cd_X10_isInstruction : Cond.code yX10_isInstruction cX10_isInstruction 4 (some .boolean) ∈ pw_gw := (pw_mem 520 (by decide +kernel) rfl)
theorem cd_X10_isRegister : Cond.code yX10_isRegister cX10_isRegister 1 (some .boolean) ∈ pw_gw := (pw_mem 523 (by decide +kernel) rfl)
theorem cd_X3_remember : Cond.code yX3_remember cX3_remember 2 none ∈ pw_gw := (pw_mem 528 (by decide +kernel) rfl)
theorem cd_X3_dropOldest : Cond.code yX3_dropOldest cX3_dropOldest 3 none ∈ pw_gw := (pw_mem 532 (by decide +kernel) rfl)
theorem cd_X7_copyFrom : Cond.code yX7_copyFrom cX7_copyFrom 2 none ∈ pw_gw := (pw_mem 536 (by decide +kernel) rfl)
theorem cd_X4_copyFrom : Cond.code yX4_copyFrom cX4_copyFrom 2 none ∈ pw_gw := (pw_mem 540 (by decide +kernel) rfl)
theorem cd_X10_leaves : Cond.code yX10_leaves cX10_leaves 2 (some .int) ∈ pw_gw := (pw_mem 545 (by decide +kernel) rfl)
theorem cd_X9_has : Cond.code yX9_has cX9_has 2 (some .boolean) ∈ pw_gw := (pw_mem 549 (by decide +kernel) rfl)
theorem cd_X10_tells : Cond.code yX10_tells cX10_tells 4 (some .int) ∈ pw_gw := (pw_mem 553 (by decide +kernel) rfl)
theorem cd_X4_is : Cond.code yX4_is cX4_is 4 (some .boolean) ∈ pw_gw := (pw_mem 557 (by decide +kernel) rfl)
theorem cd_X10_undo : Cond.code yX10_undo cX10_undo 1 (some .int) ∈ pw_gw := (pw_mem 562 (by decide +kernel) rfl)
theorem cd_X3_restoreLatest : Cond.code yX3_restoreLatest cX3_restoreLatest 2 none ∈ pw_gw := (pw_mem 566 (by decide +kernel) rfl)
theorem cd_X10_fact : Cond.code yX10_fact cX10_fact 2 (some .int) ∈ pw_gw := (pw_mem 570 (by decide +kernel) rfl)
theorem cd_X8_dropPassing : Cond.code yX8_dropPassing cX8_dropPassing 1 none ∈ pw_gw := (pw_mem 574 (by decide +kernel) rfl)
theorem cd_X9_firstOf : Cond.code yX9_firstOf cX9_firstOf 2 (some .int) ∈ pw_gw := (pw_mem 578 (by decide +kernel) rfl)
theorem cd_X9_secondOf : Cond.code yX9_secondOf cX9_secondOf 2 (some .int) ∈ pw_gw := (pw_mem 583 (by decide +kernel) rfl)
theorem cd_X10_judge : Cond.code yX10_judge cX10_judge 3 (some .int) ∈ pw_gw := (pw_mem 587 (by decide +kernel) rfl)
theorem cd_X1_closeBy : Cond.code yX1_closeBy cX1_closeBy 4 none ∈ pw_gw := (pw_mem 591 (by decide +kernel) rfl)
theorem cd_J9_min_7cf53 : Cond.code yJ9_min_7cf53 cJ9_min_7cf53 2 (some .int) ∈ pw_gw := (pw_mem 594 (by decide +kernel) rfl)
theorem cd_X1_merge : Cond.code yX1_merge cX1_merge 6 none ∈ pw_gw := (pw_mem 600 (by decide +kernel) rfl)
theorem cd_X1_spread : Cond.code yX1_spread cX1_spread 3 none ∈ pw_gw := (pw_mem 604 (by decide +kernel) rfl)
theorem cd_X1_spreadOnce : Cond.code yX1_spreadOnce cX1_spreadOnce 5 (some .boolean) ∈ pw_gw := (pw_mem 608 (by decide +kernel) rfl)
theorem cd_J7_fill_53178 : Cond.code yJ7_fill_53178 cJ7_fill_53178 4 none ∈ pw_gw := (pw_mem 611 (by decide +kernel) rfl)
theorem cd_X1_findMatch : Cond.code yX1_findMatch cX1_findMatch 5 (some .int) ∈ pw_gw := (pw_mem 615 (by decide +kernel) rfl)
theorem cd_X1_same : Cond.code yX1_same cX1_same 3 (some .boolean) ∈ pw_gw := (pw_mem 619 (by decide +kernel) rfl)
theorem cd_X1_rulesOut : Cond.code yX1_rulesOut cX1_rulesOut 4 (some .boolean) ∈ pw_gw := (pw_mem 623 (by decide +kernel) rfl)
theorem cd_X1_assume : Cond.code yX1_assume cX1_assume 3 none ∈ pw_gw := (pw_mem 628 (by decide +kernel) rfl)
theorem cd_X10_ruled : Cond.code yX10_ruled cX10_ruled 1 (some .int) ∈ pw_gw := (pw_mem 632 (by decide +kernel) rfl)
theorem cd_X10_equal : Cond.code yX10_equal cX10_equal 4 (some .int) ∈ pw_gw := (pw_mem 636 (by decide +kernel) rfl)
theorem cd_X10_goThrough : Cond.code yX10_goThrough cX10_goThrough 2 none ∈ pw_gw := (pw_mem 640 (by decide +kernel) rfl)
theorem cd_X2_goPlain : Cond.code yX2_goPlain cX2_goPlain 8 none ∈ pw_gw := (pw_mem 644 (by decide +kernel) rfl)
theorem cd_X2_headOf : Cond.code yX2_headOf cX2_headOf 1 (some .int) ∈ pw_gw := (pw_mem 651 (by decide +kernel) rfl)
theorem cd_X2_goPiped : Cond.code yX2_goPiped cX2_goPiped 10 none ∈ pw_gw := (pw_mem 656 (by decide +kernel) rfl)
theorem cd_X2_waitFrom : Cond.code yX2_waitFrom cX2_waitFrom 5 (some .int) ∈ pw_gw := (pw_mem 660 (by decide +kernel) rfl)
theorem cd_X2_isReady : Cond.code yX2_isReady cX2_isReady 5 (some .boolean) ∈ pw_gw := (pw_mem 664 (by decide +kernel) rfl)
theorem cd_X2_showsMaker : Cond.code yX2_showsMaker cX2_showsMaker 5 (some .boolean) ∈ pw_gw := (pw_mem 668 (by decide +kernel) rfl)
theorem cd_X4_shows : Cond.code yX4_shows cX4_shows 2 (some .boolean) ∈ pw_gw := (pw_mem 672 (by decide +kernel) rfl)
theorem cd_X2_readBy : Cond.code yX2_readBy cX2_readBy 5 (some .int) ∈ pw_gw := (pw_mem 676 (by decide +kernel) rfl)
theorem cd_X2_lastOf : Cond.code yX2_lastOf cX2_lastOf 3 (some .int) ∈ pw_gw := (pw_mem 680 (by decide +kernel) rfl)
theorem cd_X10_deep : Cond.code yX10_deep cX10_deep 3 (some .int) ∈ pw_gw := (pw_mem 684 (by decide +kernel) rfl)
theorem cd_X8_depthOf : Cond.code yX8_depthOf cX8_depthOf 2 (some .int) ∈ pw_gw := (pw_mem 688 (by decide +kernel) rfl)
theorem cd_X10_term : Cond.code yX10_term cX10_term 4 (some .int) ∈ pw_gw := (pw_mem 692 (by decide +kernel) rfl)
theorem cd_X8_letterOf : Cond.code yX8_letterOf cX8_letterOf 6 (some .int) ∈ pw_gw := (pw_mem 696 (by decide +kernel) rfl)
theorem cd_X8_signOf : Cond.code yX8_signOf cX8_signOf 1 (some .int) ∈ pw_gw := (pw_mem 699 (by decide +kernel) rfl)
theorem cd_X10_step : Cond.code yX10_step cX10_step 2 (some .int) ∈ pw_gw := (pw_mem 703 (by decide +kernel) rfl)
theorem cd_X2_stepAt : Cond.code yX2_stepAt cX2_stepAt 2 (some .int) ∈ pw_gw := (pw_mem 707 (by decide +kernel) rfl)
theorem cd_X10_length : Cond.code yX10_length cX10_length 1 (some .int) ∈ pw_gw := (pw_mem 711 (by decide +kernel) rfl)
theorem cd_X10_wrong : Cond.code yX10_wrong cX10_wrong 1 (some .int) ∈ pw_gw := (pw_mem 715 (by decide +kernel) rfl)
theorem cd_X10_wrongBy : Cond.code yX10_wrongBy cX10_wrongBy 5 (some .int) ∈ pw_gw := (pw_mem 719 (by decide +kernel) rfl)
theorem cd_X2_differing : Cond.code yX2_differing cX2_differing 3 (some .int) ∈ pw_gw := (pw_mem 723 (by decide +kernel) rfl)
theorem cd_X10_needed : Cond.code yX10_needed cX10_needed 5 (some .int) ∈ pw_gw := (pw_mem 727 (by decide +kernel) rfl)
theorem cd_X10_fewest : Cond.code yX10_fewest cX10_fewest 3 (some .int) ∈ pw_gw := (pw_mem 733 (by decide +kernel) rfl)
theorem cd_X10_fewestOf : Cond.code yX10_fewestOf cX10_fewestOf 4 (some .int) ∈ pw_gw := (pw_mem 737 (by decide +kernel) rfl)
theorem cd_J6_bitCount_0f7a4 : Cond.code yJ6_bitCount_0f7a4 cJ6_bitCount_0f7a4 1 (some .int) ∈ pw_gw := (pw_mem 740 (by decide +kernel) rfl)
theorem cd_X10_broken : Cond.code yX10_broken cX10_broken 3 (some .int) ∈ pw_gw := (pw_mem 747 (by decide +kernel) rfl)
theorem cd_X0_sizeBy : Cond.code yX0_sizeBy cX0_sizeBy 4 (some .int) ∈ pw_gw := (pw_mem 751 (by decide +kernel) rfl)
theorem cd_X4_hidesNothing : Cond.code yX4_hidesNothing cX4_hidesNothing 2 (some .boolean) ∈ pw_gw := (pw_mem 757 (by decide +kernel) rfl)
theorem cd_X0_seekOfSize : Cond.code yX0_seekOfSize cX0_seekOfSize 4 (some .boolean) ∈ pw_gw := (pw_mem 761 (by decide +kernel) rfl)
theorem cd_X0_writeProgram : Cond.code yX0_writeProgram cX0_writeProgram 5 none ∈ pw_gw := (pw_mem 765 (by decide +kernel) rfl)
theorem cd_X0_numberAt : Cond.code yX0_numberAt cX0_numberAt 3 (some .int) ∈ pw_gw := (pw_mem 776 (by decide +kernel) rfl)
theorem cd_X10_sees : Cond.code yX10_sees cX10_sees 2 (some .int) ∈ pw_gw := (pw_mem 784 (by decide +kernel) rfl)
theorem cd_X10_forwardsBy : Cond.code yX10_forwardsBy cX10_forwardsBy 4 (some .int) ∈ pw_gw := (pw_mem 788 (by decide +kernel) rfl)
theorem cd_X10_forget : Cond.code yX10_forget cX10_forget 2 (some .int) ∈ pw_gw := (pw_mem 792 (by decide +kernel) rfl)
theorem cd_X10_unseen : Cond.code yX10_unseen cX10_unseen 1 (some .int) ∈ pw_gw := (pw_mem 796 (by decide +kernel) rfl)
theorem cd_X10_keep : Cond.code yX10_keep cX10_keep 2 (some .int) ∈ pw_gw := (pw_mem 800 (by decide +kernel) rfl)
theorem cd_X10_back : Cond.code yX10_back cX10_back 2 (some .int) ∈ pw_gw := (pw_mem 805 (by decide +kernel) rfl)
theorem cd_X10_count : Cond.code yX10_count cX10_count 2 (some .int) ∈ pw_gw := (pw_mem 809 (by decide +kernel) rfl)
theorem cd_X11_init : Cond.code yX11_init cX11_init 1 none ∈ pw_gw := (pw_mem 814 (by decide +kernel) rfl)
theorem cd_X11_begins : Cond.code yX11_begins cX11_begins 1 none ∈ pw_gw := (pw_mem 819 (by decide +kernel) rfl)
theorem cd_X11_laysConstants : Cond.code yX11_laysConstants cX11_laysConstants 2 none ∈ pw_gw := (pw_mem 823 (by decide +kernel) rfl)
theorem cd_X11_node : Cond.code yX11_node cX11_node 5 (some .int) ∈ pw_gw := (pw_mem 827 (by decide +kernel) rfl)
theorem cd_X11_becomes : Cond.code yX11_becomes cX11_becomes 2 none ∈ pw_gw := (pw_mem 831 (by decide +kernel) rfl)
theorem cd_X11_type : Cond.code yX11_type cX11_type 2 (some .int) ∈ pw_gw := (pw_mem 959 (by decide +kernel) rfl)
theorem cd_X11_in : Cond.code yX11_in cX11_in 3 (some .boolean) ∈ pw_gw := (pw_mem 962 (by decide +kernel) rfl)
theorem cd_X11_clear : Cond.code yX11_clear cX11_clear 2 (some .int) ∈ pw_gw := (pw_mem 966 (by decide +kernel) rfl)
theorem cd_X11_machine : Cond.code yX11_machine cX11_machine 5 (some .int) ∈ pw_gw := (pw_mem 970 (by decide +kernel) rfl)
theorem cd_X11_takes : Cond.code yX11_takes cX11_takes 1 none ∈ pw_gw := (pw_mem 974 (by decide +kernel) rfl)
theorem cd_X11_item : Cond.code yX11_item cX11_item 1 (some .boolean) ∈ pw_gw := (pw_mem 978 (by decide +kernel) rfl)
theorem cd_X11_readsFact : Cond.code yX11_readsFact cX11_readsFact 2 (some .boolean) ∈ pw_gw := (pw_mem 982 (by decide +kernel) rfl)
theorem cd_X11_readsTerm : Cond.code yX11_readsTerm cX11_readsTerm 6 (some .int) ∈ pw_gw := (pw_mem 986 (by decide +kernel) rfl)
theorem cd_X11_readsInstruction : Cond.code yX11_readsInstruction cX11_readsInstruction 4 (some .boolean) ∈ pw_gw := (pw_mem 990 (by decide +kernel) rfl)
theorem cd_X11_instruction : Cond.code yX11_instruction cX11_instruction 3 (some .int) ∈ pw_gw := (pw_mem 994 (by decide +kernel) rfl)
theorem cd_X11_its : Cond.code yX11_its cX11_its 3 (some .int) ∈ pw_gw := (pw_mem 998 (by decide +kernel) rfl)
theorem cd_X11_fact : Cond.code yX11_fact cX11_fact 2 (some .int) ∈ pw_gw := (pw_mem 1002 (by decide +kernel) rfl)
theorem cd_X11_equalOf : Cond.code yX11_equalOf cX11_equalOf 4 (some .int) ∈ pw_gw := (pw_mem 1006 (by decide +kernel) rfl)
theorem cd_X11_laysSame : Cond.code yX11_laysSame cX11_laysSame 6 none ∈ pw_gw := (pw_mem 1010 (by decide +kernel) rfl)
theorem cd_X11_has : Cond.code yX11_has cX11_has 2 (some .boolean) ∈ pw_gw := (pw_mem 1013 (by decide +kernel) rfl)
theorem cd_X11_joins : Cond.code yX11_joins cX11_joins 6 none ∈ pw_gw := (pw_mem 1017 (by decide +kernel) rfl)
theorem cd_X11_areParted : Cond.code yX11_areParted cX11_areParted 3 (some .boolean) ∈ pw_gw := (pw_mem 1021 (by decide +kernel) rfl)
theorem cd_X11_isRuledOut : Cond.code yX11_isRuledOut cX11_isRuledOut 4 (some .boolean) ∈ pw_gw := (pw_mem 1025 (by decide +kernel) rfl)
theorem cd_X11_ruled : Cond.code yX11_ruled cX11_ruled 1 (some .int) ∈ pw_gw := (pw_mem 1029 (by decide +kernel) rfl)
theorem cd_X11_equal : Cond.code yX11_equal cX11_equal 4 (some .int) ∈ pw_gw := (pw_mem 1033 (by decide +kernel) rfl)
theorem cd_X11_isRegister : Cond.code yX11_isRegister cX11_isRegister 1 (some .boolean) ∈ pw_gw := (pw_mem 1036 (by decide +kernel) rfl)
theorem cd_X11_runsNow : Cond.code yX11_runsNow cX11_runsNow 1 none ∈ pw_gw := (pw_mem 1040 (by decide +kernel) rfl)
theorem cd_X11_runs : Cond.code yX11_runs cX11_runs 3 none ∈ pw_gw := (pw_mem 1044 (by decide +kernel) rfl)
theorem cd_X11_laysSteps : Cond.code yX11_laysSteps cX11_laysSteps 4 none ∈ pw_gw := (pw_mem 1048 (by decide +kernel) rfl)
theorem cd_X11_mayGo : Cond.code yX11_mayGo cX11_mayGo 5 (some .boolean) ∈ pw_gw := (pw_mem 1052 (by decide +kernel) rfl)
theorem cd_X11_hasIt : Cond.code yX11_hasIt cX11_hasIt 6 (some .boolean) ∈ pw_gw := (pw_mem 1056 (by decide +kernel) rfl)
theorem cd_X11_latest : Cond.code yX11_latest cX11_latest 4 (some .int) ∈ pw_gw := (pw_mem 1060 (by decide +kernel) rfl)
theorem cd_X11_makes : Cond.code yX11_makes cX11_makes 3 (some .boolean) ∈ pw_gw := (pw_mem 1064 (by decide +kernel) rfl)
theorem cd_X11_isVisible : Cond.code yX11_isVisible cX11_isVisible 3 (some .boolean) ∈ pw_gw := (pw_mem 1068 (by decide +kernel) rfl)
theorem cd_X11_goes : Cond.code yX11_goes cX11_goes 6 none ∈ pw_gw := (pw_mem 1072 (by decide +kernel) rfl)
theorem cd_X11_readBy : Cond.code yX11_readBy cX11_readBy 6 (some .int) ∈ pw_gw := (pw_mem 1076 (by decide +kernel) rfl)
theorem cd_X11_deep : Cond.code yX11_deep cX11_deep 3 (some .int) ∈ pw_gw := (pw_mem 1080 (by decide +kernel) rfl)
theorem cd_X11_depth : Cond.code yX11_depth cX11_depth 6 (some .int) ∈ pw_gw := (pw_mem 1084 (by decide +kernel) rfl)
theorem cd_X11_term : Cond.code yX11_term cX11_term 5 (some .int) ∈ pw_gw := (pw_mem 1088 (by decide +kernel) rfl)
theorem cd_X11_partOf : Cond.code yX11_partOf cX11_partOf 6 (some .int) ∈ pw_gw := (pw_mem 1092 (by decide +kernel) rfl)
theorem cd_X11_step : Cond.code yX11_step cX11_step 2 (some .int) ∈ pw_gw := (pw_mem 1096 (by decide +kernel) rfl)
theorem cd_X11_length : Cond.code yX11_length cX11_length 1 (some .int) ∈ pw_gw := (pw_mem 1100 (by decide +kernel) rfl)
theorem cd_X11_wrong : Cond.code yX11_wrong cX11_wrong 1 (some .int) ∈ pw_gw := (pw_mem 1104 (by decide +kernel) rfl)
theorem cd_X11_wrongBy : Cond.code yX11_wrongBy cX11_wrongBy 4 (some .int) ∈ pw_gw := (pw_mem 1108 (by decide +kernel) rfl)
theorem cd_X11_needed : Cond.code yX11_needed cX11_needed 3 (some .int) ∈ pw_gw := (pw_mem 1112 (by decide +kernel) rfl)
theorem cd_X11_ones : Cond.code yX11_ones cX11_ones 3 (some .int) ∈ pw_gw := (pw_mem 1115 (by decide +kernel) rfl)
theorem cd_X11_fewest : Cond.code yX11_fewest cX11_fewest 3 (some .int) ∈ pw_gw := (pw_mem 1119 (by decide +kernel) rfl)
theorem cd_X11_broken : Cond.code yX11_broken cX11_broken 4 (some .int) ∈ pw_gw := (pw_mem 1123 (by decide +kernel) rfl)
theorem cd_X11_breaker : Cond.code yX11_breaker cX11_breaker 3 (some .int) ∈ pw_gw := (pw_mem 1127 (by decide +kernel) rfl)
theorem cd_X11_breaks : Cond.code yX11_breaks cX11_breaks 5 (some .boolean) ∈ pw_gw := (pw_mem 1131 (by decide +kernel) rfl)
theorem cd_X11_unlike : Cond.code yX11_unlike cX11_unlike 3 (some .int) ∈ pw_gw := (pw_mem 1135 (by decide +kernel) rfl)
theorem cd_X11_puts : Cond.code yX11_puts cX11_puts 7 (some .int) ∈ pw_gw := (pw_mem 1139 (by decide +kernel) rfl)
theorem cd_X11_notes : Cond.code yX11_notes cX11_notes 2 none ∈ pw_gw := (pw_mem 1143 (by decide +kernel) rfl)
theorem cd_X11_leaves : Cond.code yX11_leaves cX11_leaves 2 (some .int) ∈ pw_gw := (pw_mem 1147 (by decide +kernel) rfl)
theorem cd_X11_tells : Cond.code yX11_tells cX11_tells 4 (some .int) ∈ pw_gw := (pw_mem 1151 (by decide +kernel) rfl)
theorem cd_X11_undo : Cond.code yX11_undo cX11_undo 2 (some .int) ∈ pw_gw := (pw_mem 1155 (by decide +kernel) rfl)
theorem cd_X11_sees : Cond.code yX11_sees cX11_sees 3 (some .int) ∈ pw_gw := (pw_mem 1159 (by decide +kernel) rfl)
theorem cd_X11_forget : Cond.code yX11_forget cX11_forget 2 (some .int) ∈ pw_gw := (pw_mem 1163 (by decide +kernel) rfl)
theorem cd_X11_unseen : Cond.code yX11_unseen cX11_unseen 4 (some .int) ∈ pw_gw := (pw_mem 1167 (by decide +kernel) rfl)
theorem cd_X11_keep : Cond.code yX11_keep cX11_keep 3 (some .int) ∈ pw_gw := (pw_mem 1171 (by decide +kernel) rfl)
theorem cd_X11_back : Cond.code yX11_back cX11_back 3 (some .int) ∈ pw_gw := (pw_mem 1175 (by decide +kernel) rfl)
theorem cd_X11_count : Cond.code yX11_count cX11_count 2 (some .int) ∈ pw_gw := (pw_mem 1179 (by decide +kernel) rfl)
/-! classes -/
theorem cl_X0 : pw_CL 0 RX0 TX0 := ⟨rfl, by decide +kernel, tyX0_ok, nmX0⟩
theorem kd_X0 : ∀ k, k < pw_fn 0 → pw_kind (pw_ft 0 k) ≤ 2 := by decide +kernel
theorem cl_X1 : pw_CL 1 RX1 TX1 := ⟨rfl, by decide +kernel, tyX1_ok, nmX1⟩
theorem kd_X1 : ∀ k, k < pw_fn 1 → pw_kind (pw_ft 1 k) ≤ 2 := by decide +kernel
theorem cl_X2 : pw_CL 2 RX2 TX2 := ⟨rfl, by decide +kernel, tyX2_ok, nmX2⟩
theorem kd_X2 : ∀ k, k < pw_fn 2 → pw_kind (pw_ft 2 k) ≤ 2 := by decide +kernel
theorem cl_X3 : pw_CL 3 RX3 TX3 := ⟨rfl, by decide +kernel, tyX3_ok, nmX3⟩
theorem kd_X3 : ∀ k, k < pw_fn 3 → pw_kind (pw_ft 3 k) ≤ 2 := by decide +kernel
theorem cl_X4 : pw_CL 4 RX4 TX4 := ⟨rfl, by decide +kernel, tyX4_ok, nmX4⟩
theorem kd_X4 : ∀ k, k < pw_fn 4 → pw_kind (pw_ft 4 k) ≤ 2 := by decide +kernel
theorem cl_X5 : pw_CL 5 RX5 TX5 := ⟨rfl, by decide +kernel, tyX5_ok, nmX5⟩
theorem kd_X5 : ∀ k, k < pw_fn 5 → pw_kind (pw_ft 5 k) ≤ 2 := by decide +kernel
theorem cl_X6 : pw_CL 6 RX6 TX6 := ⟨rfl, by decide +kernel, tyX6_ok, nmX6⟩
theorem kd_X6 : ∀ k, k < pw_fn 6 → pw_kind (pw_ft 6 k) ≤ 2 := by decide +kernel
theorem cl_X7 : pw_CL 7 RX7 TX7 := ⟨rfl, by decide +kernel, tyX7_ok, nmX7⟩
theorem kd_X7 : ∀ k, k < pw_fn 7 → pw_kind (pw_ft 7 k) ≤ 2 := by decide +kernel
theorem cl_X8 : pw_CL 8 RX8 TX8 := ⟨rfl, by decide +kernel, tyX8_ok, nmX8⟩
theorem kd_X8 : ∀ k, k < pw_fn 8 → pw_kind (pw_ft 8 k) ≤ 2 := by decide +kernel
theorem cl_X9 : pw_CL 9 RX9 TX9 := ⟨rfl, by decide +kernel, tyX9_ok, nmX9⟩
theorem kd_X9 : ∀ k, k < pw_fn 9 → pw_kind (pw_ft 9 k) ≤ 2 := by decide +kernel
theorem cl_X10 : pw_CL 10 RX10 TX10 := ⟨rfl, by decide +kernel, tyX10_ok, nmX10⟩
theorem kd_X10 : ∀ k, k < pw_fn 10 → pw_kind (pw_ft 10 k) ≤ 2 := by decide +kernel
theorem cl_X11 : pw_CL 11 RX11 TX11 := ⟨rfl, by decide +kernel, tyX11_ok, nmX11⟩
theorem kd_X11 : ∀ k, k < pw_fn 11 → pw_kind (pw_ft 11 k) ≤ 2 := by decide +kernel
/-! fields -/
theorem fl_X6_9 : pw_FL RX6 9 6 0 2 true := ⟨RX6, TX6, 0, cl_X6, by decide, rfl, rfl, rfl, rfl, (pw_mem 88 (by decide +kernel) rfl)⟩
theorem fl_X6_15 : pw_FL RX6 15 6 1 0 false := ⟨RX6, TX6, 1, cl_X6, by decide, rfl, rfl, rfl, rfl, (pw_mem 89 (by decide +kernel) rfl)⟩
theorem fl_X10_104 : pw_FL RX10 104 6 1 0 false := ⟨RX6, TX6, 1, cl_X6, by decide, rfl, rfl, rfl, rfl, (pw_mem 90 (by decide +kernel) rfl)⟩
theorem fl_X6_24 : pw_FL RX6 24 6 2 0 false := ⟨RX6, TX6, 2, cl_X6, by decide, rfl, rfl, rfl, rfl, (pw_mem 91 (by decide +kernel) rfl)⟩
theorem fl_X5_9 : pw_FL RX5 9 5 0 2 true := ⟨RX5, TX5, 0, cl_X5, by decide, rfl, rfl, rfl, rfl, (pw_mem 112 (by decide +kernel) rfl)⟩
theorem fl_X2_36 : pw_FL RX2 36 5 0 2 true := ⟨RX5, TX5, 0, cl_X5, by decide, rfl, rfl, rfl, rfl, (pw_mem 113 (by decide +kernel) rfl)⟩
theorem fl_X5_15 : pw_FL RX5 15 5 1 0 false := ⟨RX5, TX5, 1, cl_X5, by decide, rfl, rfl, rfl, rfl, (pw_mem 114 (by decide +kernel) rfl)⟩
theorem fl_X2_30 : pw_FL RX2 30 5 1 0 false := ⟨RX5, TX5, 1, cl_X5, by decide, rfl, rfl, rfl, rfl, (pw_mem 115 (by decide +kernel) rfl)⟩
theorem fl_X0_59 : pw_FL RX0 59 5 1 0 false := ⟨RX5, TX5, 1, cl_X5, by decide, rfl, rfl, rfl, rfl, (pw_mem 116 (by decide +kernel) rfl)⟩
theorem fl_X10_137 : pw_FL RX10 137 5 1 0 false := ⟨RX5, TX5, 1, cl_X5, by decide, rfl, rfl, rfl, rfl, (pw_mem 117 (by decide +kernel) rfl)⟩
theorem fl_X6_75 : pw_FL RX6 75 5 1 0 false := ⟨RX5, TX5, 1, cl_X5, by decide, rfl, rfl, rfl, rfl, (pw_mem 118 (by decide +kernel) rfl)⟩
theorem fl_X0_45 : pw_FL RX0 45 4 0 0 false := ⟨RX4, TX4, 0, cl_X4, by decide, rfl, rfl, rfl, rfl, (pw_mem 138 (by decide +kernel) rfl)⟩
theorem fl_X4_18 : pw_FL RX4 18 4 0 0 false := ⟨RX4, TX4, 0, cl_X4, by decide, rfl, rfl, rfl, rfl, (pw_mem 139 (by decide +kernel) rfl)⟩
theorem fl_X10_230 : pw_FL RX10 230 4 0 0 false := ⟨RX4, TX4, 0, cl_X4, by decide, rfl, rfl, rfl, rfl, (pw_mem 140 (by decide +kernel) rfl)⟩
theorem fl_X0_49 : pw_FL RX0 49 4 1 0 false := ⟨RX4, TX4, 1, cl_X4, by decide, rfl, rfl, rfl, rfl, (pw_mem 141 (by decide +kernel) rfl)⟩
theorem fl_X4_22 : pw_FL RX4 22 4 1 0 false := ⟨RX4, TX4, 1, cl_X4, by decide, rfl, rfl, rfl, rfl, (pw_mem 142 (by decide +kernel) rfl)⟩
theorem fl_X10_268 : pw_FL RX10 268 4 1 0 false := ⟨RX4, TX4, 1, cl_X4, by decide, rfl, rfl, rfl, rfl, (pw_mem 143 (by decide +kernel) rfl)⟩
theorem fl_X0_52 : pw_FL RX0 52 4 2 0 false := ⟨RX4, TX4, 2, cl_X4, by decide, rfl, rfl, rfl, rfl, (pw_mem 144 (by decide +kernel) rfl)⟩
theorem fl_X4_25 : pw_FL RX4 25 4 2 0 false := ⟨RX4, TX4, 2, cl_X4, by decide, rfl, rfl, rfl, rfl, (pw_mem 145 (by decide +kernel) rfl)⟩
theorem fl_X2_61 : pw_FL RX2 61 4 2 0 false := ⟨RX4, TX4, 2, cl_X4, by decide, rfl, rfl, rfl, rfl, (pw_mem 146 (by decide +kernel) rfl)⟩
theorem fl_X10_271 : pw_FL RX10 271 4 2 0 false := ⟨RX4, TX4, 2, cl_X4, by decide, rfl, rfl, rfl, rfl, (pw_mem 147 (by decide +kernel) rfl)⟩
theorem fl_X7_10 : pw_FL RX7 10 7 0 2 true := ⟨RX7, TX7, 0, cl_X7, by decide, rfl, rfl, rfl, rfl, (pw_mem 155 (by decide +kernel) rfl)⟩
theorem fl_X10_111 : pw_FL RX10 111 7 0 2 true := ⟨RX7, TX7, 0, cl_X7, by decide, rfl, rfl, rfl, rfl, (pw_mem 156 (by decide +kernel) rfl)⟩
theorem fl_X7_19 : pw_FL RX7 19 7 1 2 true := ⟨RX7, TX7, 1, cl_X7, by decide, rfl, rfl, rfl, rfl, (pw_mem 157 (by decide +kernel) rfl)⟩
theorem fl_X10_161 : pw_FL RX10 161 7 1 2 true := ⟨RX7, TX7, 1, cl_X7, by decide, rfl, rfl, rfl, rfl, (pw_mem 158 (by decide +kernel) rfl)⟩
theorem fl_X7_30 : pw_FL RX7 30 7 2 0 false := ⟨RX7, TX7, 2, cl_X7, by decide, rfl, rfl, rfl, rfl, (pw_mem 159 (by decide +kernel) rfl)⟩
theorem fl_X10_158 : pw_FL RX10 158 7 2 0 false := ⟨RX7, TX7, 2, cl_X7, by decide, rfl, rfl, rfl, rfl, (pw_mem 160 (by decide +kernel) rfl)⟩
theorem fl_X3_11 : pw_FL RX3 11 3 0 2 true := ⟨RX3, TX3, 0, cl_X3, by decide, rfl, rfl, rfl, rfl, (pw_mem 177 (by decide +kernel) rfl)⟩
theorem fl_X3_18 : pw_FL RX3 18 3 1 0 false := ⟨RX3, TX3, 1, cl_X3, by decide, rfl, rfl, rfl, rfl, (pw_mem 178 (by decide +kernel) rfl)⟩
theorem fl_X10_171 : pw_FL RX10 171 3 1 0 false := ⟨RX3, TX3, 1, cl_X3, by decide, rfl, rfl, rfl, rfl, (pw_mem 179 (by decide +kernel) rfl)⟩
theorem fl_X2_9 : pw_FL RX2 9 2 0 2 true := ⟨RX2, TX2, 0, cl_X2, by decide, rfl, rfl, rfl, rfl, (pw_mem 191 (by decide +kernel) rfl)⟩
theorem fl_X2_15 : pw_FL RX2 15 2 1 2 true := ⟨RX2, TX2, 1, cl_X2, by decide, rfl, rfl, rfl, rfl, (pw_mem 192 (by decide +kernel) rfl)⟩
theorem fl_X2_18 : pw_FL RX2 18 2 2 2 true := ⟨RX2, TX2, 2, cl_X2, by decide, rfl, rfl, rfl, rfl, (pw_mem 193 (by decide +kernel) rfl)⟩
theorem fl_X2_21 : pw_FL RX2 21 2 3 2 true := ⟨RX2, TX2, 3, cl_X2, by decide, rfl, rfl, rfl, rfl, (pw_mem 194 (by decide +kernel) rfl)⟩
theorem fl_X2_24 : pw_FL RX2 24 2 4 2 true := ⟨RX2, TX2, 4, cl_X2, by decide, rfl, rfl, rfl, rfl, (pw_mem 195 (by decide +kernel) rfl)⟩
theorem fl_X2_27 : pw_FL RX2 27 2 5 2 true := ⟨RX2, TX2, 5, cl_X2, by decide, rfl, rfl, rfl, rfl, (pw_mem 196 (by decide +kernel) rfl)⟩
theorem fl_X1_9 : pw_FL RX1 9 1 0 2 true := ⟨RX1, TX1, 0, cl_X1, by decide, rfl, rfl, rfl, rfl, (pw_mem 217 (by decide +kernel) rfl)⟩
theorem fl_X1_15 : pw_FL RX1 15 1 1 2 true := ⟨RX1, TX1, 1, cl_X1, by decide, rfl, rfl, rfl, rfl, (pw_mem 218 (by decide +kernel) rfl)⟩
theorem fl_X1_18 : pw_FL RX1 18 1 2 2 true := ⟨RX1, TX1, 2, cl_X1, by decide, rfl, rfl, rfl, rfl, (pw_mem 219 (by decide +kernel) rfl)⟩
theorem fl_X1_27 : pw_FL RX1 27 1 3 2 false := ⟨RX1, TX1, 3, cl_X1, by decide, rfl, rfl, rfl, rfl, (pw_mem 220 (by decide +kernel) rfl)⟩
theorem fl_X1_40 : pw_FL RX1 40 1 4 0 false := ⟨RX1, TX1, 4, cl_X1, by decide, rfl, rfl, rfl, rfl, (pw_mem 221 (by decide +kernel) rfl)⟩
theorem fl_X8_15 : pw_FL RX8 15 8 0 2 true := ⟨RX8, TX8, 0, cl_X8, by decide, rfl, rfl, rfl, rfl, (pw_mem 254 (by decide +kernel) rfl)⟩
theorem fl_X1_82 : pw_FL RX1 82 8 0 2 true := ⟨RX8, TX8, 0, cl_X8, by decide, rfl, rfl, rfl, rfl, (pw_mem 255 (by decide +kernel) rfl)⟩
theorem fl_X8_21 : pw_FL RX8 21 8 1 2 true := ⟨RX8, TX8, 1, cl_X8, by decide, rfl, rfl, rfl, rfl, (pw_mem 256 (by decide +kernel) rfl)⟩
theorem fl_X1_76 : pw_FL RX1 76 8 1 2 true := ⟨RX8, TX8, 1, cl_X8, by decide, rfl, rfl, rfl, rfl, (pw_mem 257 (by decide +kernel) rfl)⟩
theorem fl_X8_24 : pw_FL RX8 24 8 2 2 true := ⟨RX8, TX8, 2, cl_X8, by decide, rfl, rfl, rfl, rfl, (pw_mem 258 (by decide +kernel) rfl)⟩
theorem fl_X1_85 : pw_FL RX1 85 8 2 2 true := ⟨RX8, TX8, 2, cl_X8, by decide, rfl, rfl, rfl, rfl, (pw_mem 259 (by decide +kernel) rfl)⟩
theorem fl_X8_27 : pw_FL RX8 27 8 3 2 true := ⟨RX8, TX8, 3, cl_X8, by decide, rfl, rfl, rfl, rfl, (pw_mem 260 (by decide +kernel) rfl)⟩
theorem fl_X8_30 : pw_FL RX8 30 8 4 2 true := ⟨RX8, TX8, 4, cl_X8, by decide, rfl, rfl, rfl, rfl, (pw_mem 261 (by decide +kernel) rfl)⟩
theorem fl_X8_36 : pw_FL RX8 36 8 5 0 false := ⟨RX8, TX8, 5, cl_X8, by decide, rfl, rfl, rfl, rfl, (pw_mem 262 (by decide +kernel) rfl)⟩
theorem fl_X1_28 : pw_FL RX1 28 8 5 0 false := ⟨RX8, TX8, 5, cl_X8, by decide, rfl, rfl, rfl, rfl, (pw_mem 263 (by decide +kernel) rfl)⟩
theorem fl_X8_40 : pw_FL RX8 40 8 6 0 false := ⟨RX8, TX8, 6, cl_X8, by decide, rfl, rfl, rfl, rfl, (pw_mem 264 (by decide +kernel) rfl)⟩
theorem fl_X0_12 : pw_FL RX0 12 0 0 2 true := ⟨RX0, TX0, 0, cl_X0, by decide, rfl, rfl, rfl, rfl, (pw_mem 284 (by decide +kernel) rfl)⟩
theorem fl_X0_23 : pw_FL RX0 23 0 1 2 true := ⟨RX0, TX0, 1, cl_X0, by decide, rfl, rfl, rfl, rfl, (pw_mem 285 (by decide +kernel) rfl)⟩
theorem fl_X0_30 : pw_FL RX0 30 0 2 2 true := ⟨RX0, TX0, 2, cl_X0, by decide, rfl, rfl, rfl, rfl, (pw_mem 286 (by decide +kernel) rfl)⟩
theorem fl_X0_37 : pw_FL RX0 37 0 3 2 true := ⟨RX0, TX0, 3, cl_X0, by decide, rfl, rfl, rfl, rfl, (pw_mem 287 (by decide +kernel) rfl)⟩
theorem fl_X0_41 : pw_FL RX0 41 0 4 1 false := ⟨RX0, TX0, 4, cl_X0, by decide, rfl, rfl, rfl, rfl, (pw_mem 288 (by decide +kernel) rfl)⟩
theorem fl_X9_14 : pw_FL RX9 14 9 0 2 true := ⟨RX9, TX9, 0, cl_X9, by decide, rfl, rfl, rfl, rfl, (pw_mem 312 (by decide +kernel) rfl)⟩
theorem fl_X1_21 : pw_FL RX1 21 9 0 2 true := ⟨RX9, TX9, 0, cl_X9, by decide, rfl, rfl, rfl, rfl, (pw_mem 313 (by decide +kernel) rfl)⟩
theorem fl_X6_35 : pw_FL RX6 35 9 0 2 true := ⟨RX9, TX9, 0, cl_X9, by decide, rfl, rfl, rfl, rfl, (pw_mem 314 (by decide +kernel) rfl)⟩
theorem fl_X10_175 : pw_FL RX10 175 9 0 2 true := ⟨RX9, TX9, 0, cl_X9, by decide, rfl, rfl, rfl, rfl, (pw_mem 315 (by decide +kernel) rfl)⟩
theorem fl_X9_23 : pw_FL RX9 23 9 1 2 true := ⟨RX9, TX9, 1, cl_X9, by decide, rfl, rfl, rfl, rfl, (pw_mem 316 (by decide +kernel) rfl)⟩
theorem fl_X7_34 : pw_FL RX7 34 9 1 2 true := ⟨RX9, TX9, 1, cl_X9, by decide, rfl, rfl, rfl, rfl, (pw_mem 317 (by decide +kernel) rfl)⟩
theorem fl_X6_71 : pw_FL RX6 71 9 1 2 true := ⟨RX9, TX9, 1, cl_X9, by decide, rfl, rfl, rfl, rfl, (pw_mem 318 (by decide +kernel) rfl)⟩
theorem fl_X9_27 : pw_FL RX9 27 9 2 2 true := ⟨RX9, TX9, 2, cl_X9, by decide, rfl, rfl, rfl, rfl, (pw_mem 319 (by decide +kernel) rfl)⟩
theorem fl_X9_31 : pw_FL RX9 31 9 3 2 true := ⟨RX9, TX9, 3, cl_X9, by decide, rfl, rfl, rfl, rfl, (pw_mem 320 (by decide +kernel) rfl)⟩
theorem fl_X9_34 : pw_FL RX9 34 9 4 2 true := ⟨RX9, TX9, 4, cl_X9, by decide, rfl, rfl, rfl, rfl, (pw_mem 321 (by decide +kernel) rfl)⟩
theorem fl_X1_44 : pw_FL RX1 44 9 4 2 true := ⟨RX9, TX9, 4, cl_X9, by decide, rfl, rfl, rfl, rfl, (pw_mem 322 (by decide +kernel) rfl)⟩
theorem fl_X9_42 : pw_FL RX9 42 9 5 0 false := ⟨RX9, TX9, 5, cl_X9, by decide, rfl, rfl, rfl, rfl, (pw_mem 323 (by decide +kernel) rfl)⟩
theorem fl_X1_41 : pw_FL RX1 41 9 5 0 false := ⟨RX9, TX9, 5, cl_X9, by decide, rfl, rfl, rfl, rfl, (pw_mem 324 (by decide +kernel) rfl)⟩
theorem fl_X7_40 : pw_FL RX7 40 9 5 0 false := ⟨RX9, TX9, 5, cl_X9, by decide, rfl, rfl, rfl, rfl, (pw_mem 325 (by decide +kernel) rfl)⟩
theorem fl_X6_52 : pw_FL RX6 52 9 5 0 false := ⟨RX9, TX9, 5, cl_X9, by decide, rfl, rfl, rfl, rfl, (pw_mem 326 (by decide +kernel) rfl)⟩
theorem fl_X10_244 : pw_FL RX10 244 9 5 0 false := ⟨RX9, TX9, 5, cl_X9, by decide, rfl, rfl, rfl, rfl, (pw_mem 327 (by decide +kernel) rfl)⟩
theorem fl_X10_12 : pw_FL RX10 12 10 0 2 true := ⟨RX10, TX10, 0, cl_X10, by decide, rfl, rfl, rfl, rfl, (pw_mem 365 (by decide +kernel) rfl)⟩
theorem fl_X10_19 : pw_FL RX10 19 10 1 2 true := ⟨RX10, TX10, 1, cl_X10, by decide, rfl, rfl, rfl, rfl, (pw_mem 366 (by decide +kernel) rfl)⟩
theorem fl_X10_26 : pw_FL RX10 26 10 2 2 true := ⟨RX10, TX10, 2, cl_X10, by decide, rfl, rfl, rfl, rfl, (pw_mem 367 (by decide +kernel) rfl)⟩
theorem fl_X10_30 : pw_FL RX10 30 10 3 2 true := ⟨RX10, TX10, 3, cl_X10, by decide, rfl, rfl, rfl, rfl, (pw_mem 368 (by decide +kernel) rfl)⟩
theorem fl_X10_34 : pw_FL RX10 34 10 4 2 true := ⟨RX10, TX10, 4, cl_X10, by decide, rfl, rfl, rfl, rfl, (pw_mem 369 (by decide +kernel) rfl)⟩
theorem fl_X10_41 : pw_FL RX10 41 10 5 2 true := ⟨RX10, TX10, 5, cl_X10, by decide, rfl, rfl, rfl, rfl, (pw_mem 370 (by decide +kernel) rfl)⟩
theorem fl_X10_48 : pw_FL RX10 48 10 6 2 true := ⟨RX10, TX10, 6, cl_X10, by decide, rfl, rfl, rfl, rfl, (pw_mem 371 (by decide +kernel) rfl)⟩
theorem fl_X10_55 : pw_FL RX10 55 10 7 2 true := ⟨RX10, TX10, 7, cl_X10, by decide, rfl, rfl, rfl, rfl, (pw_mem 372 (by decide +kernel) rfl)⟩
theorem fl_X10_62 : pw_FL RX10 62 10 8 2 true := ⟨RX10, TX10, 8, cl_X10, by decide, rfl, rfl, rfl, rfl, (pw_mem 373 (by decide +kernel) rfl)⟩
theorem fl_X10_69 : pw_FL RX10 69 10 9 2 false := ⟨RX10, TX10, 9, cl_X10, by decide, rfl, rfl, rfl, rfl, (pw_mem 374 (by decide +kernel) rfl)⟩
theorem fl_X10_73 : pw_FL RX10 73 10 10 2 false := ⟨RX10, TX10, 10, cl_X10, by decide, rfl, rfl, rfl, rfl, (pw_mem 375 (by decide +kernel) rfl)⟩
theorem fl_X10_89 : pw_FL RX10 89 10 11 0 false := ⟨RX10, TX10, 11, cl_X10, by decide, rfl, rfl, rfl, rfl, (pw_mem 376 (by decide +kernel) rfl)⟩
theorem fl_X10_93 : pw_FL RX10 93 10 12 0 false := ⟨RX10, TX10, 12, cl_X10, by decide, rfl, rfl, rfl, rfl, (pw_mem 377 (by decide +kernel) rfl)⟩
theorem fs_X10_240 : Cond.fieldLink RX10 240 "FlushedPipes" "FORWARDS_BY_BITS" "[I" ∈ pw_gw := (pw_mem 728 (by decide +kernel) rfl)
theorem fl_X11_104 : pw_FL RX11 104 11 0 0 false := ⟨RX11, TX11, 0, cl_X11, by decide, rfl, rfl, rfl, rfl, (pw_mem 832 (by decide +kernel) rfl)⟩
theorem fl_X11_162 : pw_FL RX11 162 11 1 0 false := ⟨RX11, TX11, 1, cl_X11, by decide, rfl, rfl, rfl, rfl, (pw_mem 833 (by decide +kernel) rfl)⟩
theorem fl_X11_7 : pw_FL RX11 7 11 2 2 true := ⟨RX11, TX11, 2, cl_X11, by decide, rfl, rfl, rfl, rfl, (pw_mem 834 (by decide +kernel) rfl)⟩
theorem fl_X11_13 : pw_FL RX11 13 11 3 2 true := ⟨RX11, TX11, 3, cl_X11, by decide, rfl, rfl, rfl, rfl, (pw_mem 835 (by decide +kernel) rfl)⟩
theorem fl_X11_17 : pw_FL RX11 17 11 4 2 true := ⟨RX11, TX11, 4, cl_X11, by decide, rfl, rfl, rfl, rfl, (pw_mem 836 (by decide +kernel) rfl)⟩
theorem fl_X11_20 : pw_FL RX11 20 11 5 2 true := ⟨RX11, TX11, 5, cl_X11, by decide, rfl, rfl, rfl, rfl, (pw_mem 837 (by decide +kernel) rfl)⟩
theorem fl_X11_23 : pw_FL RX11 23 11 6 2 true := ⟨RX11, TX11, 6, cl_X11, by decide, rfl, rfl, rfl, rfl, (pw_mem 838 (by decide +kernel) rfl)⟩
theorem fl_X11_165 : pw_FL RX11 165 11 7 0 false := ⟨RX11, TX11, 7, cl_X11, by decide, rfl, rfl, rfl, rfl, (pw_mem 839 (by decide +kernel) rfl)⟩
theorem fl_X11_26 : pw_FL RX11 26 11 8 2 true := ⟨RX11, TX11, 8, cl_X11, by decide, rfl, rfl, rfl, rfl, (pw_mem 840 (by decide +kernel) rfl)⟩
theorem fl_X11_29 : pw_FL RX11 29 11 9 2 true := ⟨RX11, TX11, 9, cl_X11, by decide, rfl, rfl, rfl, rfl, (pw_mem 841 (by decide +kernel) rfl)⟩
theorem fl_X11_168 : pw_FL RX11 168 11 10 0 false := ⟨RX11, TX11, 10, cl_X11, by decide, rfl, rfl, rfl, rfl, (pw_mem 842 (by decide +kernel) rfl)⟩
theorem fl_X11_32 : pw_FL RX11 32 11 11 2 true := ⟨RX11, TX11, 11, cl_X11, by decide, rfl, rfl, rfl, rfl, (pw_mem 843 (by decide +kernel) rfl)⟩
theorem fl_X11_35 : pw_FL RX11 35 11 12 2 true := ⟨RX11, TX11, 12, cl_X11, by decide, rfl, rfl, rfl, rfl, (pw_mem 844 (by decide +kernel) rfl)⟩
theorem fl_X11_112 : pw_FL RX11 112 11 13 0 false := ⟨RX11, TX11, 13, cl_X11, by decide, rfl, rfl, rfl, rfl, (pw_mem 845 (by decide +kernel) rfl)⟩
theorem fl_X11_119 : pw_FL RX11 119 11 14 0 false := ⟨RX11, TX11, 14, cl_X11, by decide, rfl, rfl, rfl, rfl, (pw_mem 846 (by decide +kernel) rfl)⟩
theorem fl_X11_38 : pw_FL RX11 38 11 15 2 true := ⟨RX11, TX11, 15, cl_X11, by decide, rfl, rfl, rfl, rfl, (pw_mem 847 (by decide +kernel) rfl)⟩
theorem fl_X11_41 : pw_FL RX11 41 11 16 2 true := ⟨RX11, TX11, 16, cl_X11, by decide, rfl, rfl, rfl, rfl, (pw_mem 848 (by decide +kernel) rfl)⟩
theorem fl_X11_44 : pw_FL RX11 44 11 17 2 true := ⟨RX11, TX11, 17, cl_X11, by decide, rfl, rfl, rfl, rfl, (pw_mem 849 (by decide +kernel) rfl)⟩
theorem fl_X11_47 : pw_FL RX11 47 11 18 2 true := ⟨RX11, TX11, 18, cl_X11, by decide, rfl, rfl, rfl, rfl, (pw_mem 850 (by decide +kernel) rfl)⟩
theorem fl_X11_50 : pw_FL RX11 50 11 19 2 true := ⟨RX11, TX11, 19, cl_X11, by decide, rfl, rfl, rfl, rfl, (pw_mem 851 (by decide +kernel) rfl)⟩
theorem fl_X11_126 : pw_FL RX11 126 11 20 0 false := ⟨RX11, TX11, 20, cl_X11, by decide, rfl, rfl, rfl, rfl, (pw_mem 852 (by decide +kernel) rfl)⟩
theorem fl_X11_53 : pw_FL RX11 53 11 21 2 true := ⟨RX11, TX11, 21, cl_X11, by decide, rfl, rfl, rfl, rfl, (pw_mem 853 (by decide +kernel) rfl)⟩
theorem fl_X11_129 : pw_FL RX11 129 11 22 0 false := ⟨RX11, TX11, 22, cl_X11, by decide, rfl, rfl, rfl, rfl, (pw_mem 854 (by decide +kernel) rfl)⟩
theorem fl_X11_132 : pw_FL RX11 132 11 23 0 false := ⟨RX11, TX11, 23, cl_X11, by decide, rfl, rfl, rfl, rfl, (pw_mem 855 (by decide +kernel) rfl)⟩
theorem fl_X11_135 : pw_FL RX11 135 11 24 0 false := ⟨RX11, TX11, 24, cl_X11, by decide, rfl, rfl, rfl, rfl, (pw_mem 856 (by decide +kernel) rfl)⟩
theorem fl_X11_141 : pw_FL RX11 141 11 25 0 false := ⟨RX11, TX11, 25, cl_X11, by decide, rfl, rfl, rfl, rfl, (pw_mem 857 (by decide +kernel) rfl)⟩
theorem fl_X11_56 : pw_FL RX11 56 11 26 2 true := ⟨RX11, TX11, 26, cl_X11, by decide, rfl, rfl, rfl, rfl, (pw_mem 858 (by decide +kernel) rfl)⟩
theorem fl_X11_59 : pw_FL RX11 59 11 27 2 true := ⟨RX11, TX11, 27, cl_X11, by decide, rfl, rfl, rfl, rfl, (pw_mem 859 (by decide +kernel) rfl)⟩
theorem fl_X11_62 : pw_FL RX11 62 11 28 2 true := ⟨RX11, TX11, 28, cl_X11, by decide, rfl, rfl, rfl, rfl, (pw_mem 860 (by decide +kernel) rfl)⟩
theorem fl_X11_148 : pw_FL RX11 148 11 29 0 false := ⟨RX11, TX11, 29, cl_X11, by decide, rfl, rfl, rfl, rfl, (pw_mem 861 (by decide +kernel) rfl)⟩
theorem fl_X11_65 : pw_FL RX11 65 11 30 2 true := ⟨RX11, TX11, 30, cl_X11, by decide, rfl, rfl, rfl, rfl, (pw_mem 862 (by decide +kernel) rfl)⟩
theorem fl_X11_68 : pw_FL RX11 68 11 31 2 true := ⟨RX11, TX11, 31, cl_X11, by decide, rfl, rfl, rfl, rfl, (pw_mem 863 (by decide +kernel) rfl)⟩
theorem fl_X11_71 : pw_FL RX11 71 11 32 2 true := ⟨RX11, TX11, 32, cl_X11, by decide, rfl, rfl, rfl, rfl, (pw_mem 864 (by decide +kernel) rfl)⟩
theorem fl_X11_74 : pw_FL RX11 74 11 33 2 true := ⟨RX11, TX11, 33, cl_X11, by decide, rfl, rfl, rfl, rfl, (pw_mem 865 (by decide +kernel) rfl)⟩
theorem fl_X11_77 : pw_FL RX11 77 11 34 2 true := ⟨RX11, TX11, 34, cl_X11, by decide, rfl, rfl, rfl, rfl, (pw_mem 866 (by decide +kernel) rfl)⟩
theorem fl_X11_80 : pw_FL RX11 80 11 35 2 true := ⟨RX11, TX11, 35, cl_X11, by decide, rfl, rfl, rfl, rfl, (pw_mem 867 (by decide +kernel) rfl)⟩
theorem fl_X11_83 : pw_FL RX11 83 11 36 2 true := ⟨RX11, TX11, 36, cl_X11, by decide, rfl, rfl, rfl, rfl, (pw_mem 868 (by decide +kernel) rfl)⟩
theorem fl_X11_86 : pw_FL RX11 86 11 37 2 true := ⟨RX11, TX11, 37, cl_X11, by decide, rfl, rfl, rfl, rfl, (pw_mem 869 (by decide +kernel) rfl)⟩
theorem fl_X11_89 : pw_FL RX11 89 11 38 2 true := ⟨RX11, TX11, 38, cl_X11, by decide, rfl, rfl, rfl, rfl, (pw_mem 870 (by decide +kernel) rfl)⟩
theorem fl_X11_92 : pw_FL RX11 92 11 39 2 true := ⟨RX11, TX11, 39, cl_X11, by decide, rfl, rfl, rfl, rfl, (pw_mem 871 (by decide +kernel) rfl)⟩
theorem fl_X11_95 : pw_FL RX11 95 11 40 2 true := ⟨RX11, TX11, 40, cl_X11, by decide, rfl, rfl, rfl, rfl, (pw_mem 872 (by decide +kernel) rfl)⟩
/-! methods -/
theorem mi_L_9 : pw_MI RL 9 mX10_init 0 := ⟨⟨by decide, by decide, by decide +kernel, by decide⟩, rfl, rfl, cd_X10_init, (pw_mem 76 (by decide +kernel) rfl), (pw_mem 77 (by decide +kernel) rfl), (pw_mem 58 (by decide +kernel) rfl)⟩
theorem ob_X10_3 : Cond.methodLink RX10 3 Lib.objectInit ∈ pw_gw ∧ Cond.instanceMethod Lib.objectInit ∈ pw_gw ∧ Cond.code Lib.objectInit ⟨#[0xb1]⟩ 1 none ∈ pw_gw := ⟨(pw_mem 79 (by decide +kernel) rfl), (pw_mem 80 (by decide +kernel) rfl), (pw_mem 81 (by decide +kernel) rfl)⟩
theorem mn_X10_11 : pw_MN RX10 11 mX6_init 0 := ⟨⟨by decide, by decide, by decide +kernel, by decide⟩, rfl, rfl, cd_X6_init, ⟨"FlushedPipes", pw_memN 84 (by decide +kernel) rfl⟩, (pw_mem 85 (by decide +kernel) rfl), (pw_mem 59 (by decide +kernel) rfl)⟩
theorem ob_X6_3 : Cond.methodLink RX6 3 Lib.objectInit ∈ pw_gw ∧ Cond.instanceMethod Lib.objectInit ∈ pw_gw ∧ Cond.code Lib.objectInit ⟨#[0xb1]⟩ 1 none ∈ pw_gw := ⟨(pw_mem 87 (by decide +kernel) rfl), (pw_mem 80 (by decide +kernel) rfl), (pw_mem 81 (by decide +kernel) rfl)⟩
theorem mn_X10_18 : pw_MN RX10 18 mX7_init 0 := ⟨⟨by decide, by decide, by decide +kernel, by decide⟩, rfl, rfl, cd_X7_init, ⟨"FlushedPipes", pw_memN 102 (by decide +kernel) rfl⟩, (pw_mem 103 (by decide +kernel) rfl), (pw_mem 60 (by decide +kernel) rfl)⟩
theorem ob_X7_1 : Cond.methodLink RX7 1 Lib.objectInit ∈ pw_gw ∧ Cond.instanceMethod Lib.objectInit ∈ pw_gw ∧ Cond.code Lib.objectInit ⟨#[0xb1]⟩ 1 none ∈ pw_gw := ⟨(pw_mem 105 (by decide +kernel) rfl), (pw_mem 80 (by decide +kernel) rfl), (pw_mem 81 (by decide +kernel) rfl)⟩
theorem mn_X7_9 : pw_MN RX7 9 mX5_init 0 := ⟨⟨by decide, by decide, by decide +kernel, by decide⟩, rfl, rfl, cd_X5_init, ⟨"FlushedPipes", pw_memN 108 (by decide +kernel) rfl⟩, (pw_mem 109 (by decide +kernel) rfl), (pw_mem 61 (by decide +kernel) rfl)⟩
theorem ob_X5_3 : Cond.methodLink RX5 3 Lib.objectInit ∈ pw_gw ∧ Cond.instanceMethod Lib.objectInit ∈ pw_gw ∧ Cond.code Lib.objectInit ⟨#[0xb1]⟩ 1 none ∈ pw_gw := ⟨(pw_mem 111 (by decide +kernel) rfl), (pw_mem 80 (by decide +kernel) rfl), (pw_mem 81 (by decide +kernel) rfl)⟩
theorem mi_X7_18 : pw_MI RX7 18 mX4_init 0 := ⟨⟨by decide, by decide, by decide +kernel, by decide⟩, rfl, rfl, cd_X4_init, (pw_mem 126 (by decide +kernel) rfl), (pw_mem 127 (by decide +kernel) rfl), (pw_mem 62 (by decide +kernel) rfl)⟩
theorem ob_X4_3 : Cond.methodLink RX4 3 Lib.objectInit ∈ pw_gw ∧ Cond.instanceMethod Lib.objectInit ∈ pw_gw ∧ Cond.code Lib.objectInit ⟨#[0xb1]⟩ 1 none ∈ pw_gw := ⟨(pw_mem 129 (by decide +kernel) rfl), (pw_mem 80 (by decide +kernel) rfl), (pw_mem 81 (by decide +kernel) rfl)⟩
theorem mv_X4_9 : pw_MV RX4 9 mX4_setFirst 4 0 := ⟨⟨by decide, by decide, by decide +kernel, by decide⟩, ⟨TX4, 3, rfl⟩, cd_X4_setFirst, (pw_mem 130 (by decide +kernel) rfl), (pw_mem 131 (by decide +kernel) rfl), (pw_mem 132 (by decide +kernel) rfl), (pw_mem 62 (by decide +kernel) rfl)⟩
theorem mv_X4_14 : pw_MV RX4 14 mX4_set 4 3 := ⟨⟨by decide, by decide, by decide +kernel, by decide⟩, ⟨TX4, 3, rfl⟩, cd_X4_set, (pw_mem 134 (by decide +kernel) rfl), (pw_mem 135 (by decide +kernel) rfl), (pw_mem 136 (by decide +kernel) rfl), (pw_mem 62 (by decide +kernel) rfl)⟩
theorem mi_X10_25 : pw_MI RX10 25 mX3_init 0 := ⟨⟨by decide, by decide, by decide +kernel, by decide⟩, rfl, rfl, cd_X3_init, (pw_mem 170 (by decide +kernel) rfl), (pw_mem 171 (by decide +kernel) rfl), (pw_mem 63 (by decide +kernel) rfl)⟩
theorem ob_X3_3 : Cond.methodLink RX3 3 Lib.objectInit ∈ pw_gw ∧ Cond.instanceMethod Lib.objectInit ∈ pw_gw ∧ Cond.code Lib.objectInit ⟨#[0xb1]⟩ 1 none ∈ pw_gw := ⟨(pw_mem 173 (by decide +kernel) rfl), (pw_mem 80 (by decide +kernel) rfl), (pw_mem 81 (by decide +kernel) rfl)⟩
theorem mn_X3_17 : pw_MN RX3 17 mX7_init 0 := ⟨⟨by decide, by decide, by decide +kernel, by decide⟩, rfl, rfl, cd_X7_init, ⟨"FlushedPipes", pw_memN 176 (by decide +kernel) rfl⟩, (pw_mem 103 (by decide +kernel) rfl), (pw_mem 60 (by decide +kernel) rfl)⟩
theorem mn_X10_40 : pw_MN RX10 40 mX2_init 0 := ⟨⟨by decide, by decide, by decide +kernel, by decide⟩, rfl, rfl, cd_X2_init, ⟨"FlushedPipes", pw_memN 187 (by decide +kernel) rfl⟩, (pw_mem 188 (by decide +kernel) rfl), (pw_mem 64 (by decide +kernel) rfl)⟩
theorem ob_X2_3 : Cond.methodLink RX2 3 Lib.objectInit ∈ pw_gw ∧ Cond.instanceMethod Lib.objectInit ∈ pw_gw ∧ Cond.code Lib.objectInit ⟨#[0xb1]⟩ 1 none ∈ pw_gw := ⟨(pw_mem 190 (by decide +kernel) rfl), (pw_mem 80 (by decide +kernel) rfl), (pw_mem 81 (by decide +kernel) rfl)⟩
theorem mn_X10_47 : pw_MN RX10 47 mX1_init 0 := ⟨⟨by decide, by decide, by decide +kernel, by decide⟩, rfl, rfl, cd_X1_init, ⟨"FlushedPipes", pw_memN 213 (by decide +kernel) rfl⟩, (pw_mem 214 (by decide +kernel) rfl), (pw_mem 65 (by decide +kernel) rfl)⟩
theorem ob_X1_3 : Cond.methodLink RX1 3 Lib.objectInit ∈ pw_gw ∧ Cond.instanceMethod Lib.objectInit ∈ pw_gw ∧ Cond.code Lib.objectInit ⟨#[0xb1]⟩ 1 none ∈ pw_gw := ⟨(pw_mem 216 (by decide +kernel) rfl), (pw_mem 80 (by decide +kernel) rfl), (pw_mem 81 (by decide +kernel) rfl)⟩
theorem mn_X10_54 : pw_MN RX10 54 mX0_init 0 := ⟨⟨by decide, by decide, by decide +kernel, by decide⟩, rfl, rfl, cd_X0_init, ⟨"FlushedPipes", pw_memN 235 (by decide +kernel) rfl⟩, (pw_mem 236 (by decide +kernel) rfl), (pw_mem 66 (by decide +kernel) rfl)⟩
theorem ob_X0_3 : Cond.methodLink RX0 3 Lib.objectInit ∈ pw_gw ∧ Cond.instanceMethod Lib.objectInit ∈ pw_gw ∧ Cond.code Lib.objectInit ⟨#[0xb1]⟩ 1 none ∈ pw_gw := ⟨(pw_mem 238 (by decide +kernel) rfl), (pw_mem 80 (by decide +kernel) rfl), (pw_mem 81 (by decide +kernel) rfl)⟩
theorem mn_X0_11 : pw_MN RX0 11 mX5_init 0 := ⟨⟨by decide, by decide, by decide +kernel, by decide⟩, rfl, rfl, cd_X5_init, ⟨"FlushedPipes", pw_memN 240 (by decide +kernel) rfl⟩, (pw_mem 109 (by decide +kernel) rfl), (pw_mem 61 (by decide +kernel) rfl)⟩
theorem mi_X0_20 : pw_MI RX0 20 mX8_init 1 := ⟨⟨by decide, by decide, by decide +kernel, by decide⟩, rfl, rfl, cd_X8_init, (pw_mem 243 (by decide +kernel) rfl), (pw_mem 244 (by decide +kernel) rfl), (pw_mem 67 (by decide +kernel) rfl)⟩
theorem ob_X8_3 : Cond.methodLink RX8 3 Lib.objectInit ∈ pw_gw ∧ Cond.instanceMethod Lib.objectInit ∈ pw_gw ∧ Cond.code Lib.objectInit ⟨#[0xb1]⟩ 1 none ∈ pw_gw := ⟨(pw_mem 246 (by decide +kernel) rfl), (pw_mem 80 (by decide +kernel) rfl), (pw_mem 81 (by decide +kernel) rfl)⟩
theorem ms_X8_9 : pw_MS RX8 9 mJ9_max_7cf53 2 := ⟨⟨by decide, by decide, by decide +kernel, by decide⟩, cd_J9_max_7cf53, (pw_mem 247 (by decide +kernel) rfl), (pw_mem 248 (by decide +kernel) rfl), (pw_mem 68 (by decide +kernel) rfl)⟩
theorem mv_X8_33 : pw_MV RX8 33 mX8_forgetAll 8 0 := ⟨⟨by decide, by decide, by decide +kernel, by decide⟩, ⟨TX8, 7, rfl⟩, cd_X8_forgetAll, (pw_mem 250 (by decide +kernel) rfl), (pw_mem 251 (by decide +kernel) rfl), (pw_mem 252 (by decide +kernel) rfl), (pw_mem 67 (by decide +kernel) rfl)⟩
theorem mn_X0_29 : pw_MN RX0 29 mX2_init 0 := ⟨⟨by decide, by decide, by decide +kernel, by decide⟩, rfl, rfl, cd_X2_init, ⟨"FlushedPipes", pw_memN 281 (by decide +kernel) rfl⟩, (pw_mem 188 (by decide +kernel) rfl), (pw_mem 64 (by decide +kernel) rfl)⟩
theorem mi_X0_36 : pw_MI RX0 36 mX4_init 0 := ⟨⟨by decide, by decide, by decide +kernel, by decide⟩, rfl, rfl, cd_X4_init, (pw_mem 283 (by decide +kernel) rfl), (pw_mem 127 (by decide +kernel) rfl), (pw_mem 62 (by decide +kernel) rfl)⟩
theorem mi_X10_61 : pw_MI RX10 61 mX4_init 0 := ⟨⟨by decide, by decide, by decide +kernel, by decide⟩, rfl, rfl, cd_X4_init, (pw_mem 301 (by decide +kernel) rfl), (pw_mem 127 (by decide +kernel) rfl), (pw_mem 62 (by decide +kernel) rfl)⟩
theorem mn_X10_68 : pw_MN RX10 68 mX9_init 0 := ⟨⟨by decide, by decide, by decide +kernel, by decide⟩, rfl, rfl, cd_X9_init, ⟨"FlushedPipes", pw_memN 304 (by decide +kernel) rfl⟩, (pw_mem 305 (by decide +kernel) rfl), (pw_mem 69 (by decide +kernel) rfl)⟩
theorem ob_X9_3 : Cond.methodLink RX9 3 Lib.objectInit ∈ pw_gw ∧ Cond.instanceMethod Lib.objectInit ∈ pw_gw ∧ Cond.code Lib.objectInit ⟨#[0xb1]⟩ 1 none ∈ pw_gw := ⟨(pw_mem 307 (by decide +kernel) rfl), (pw_mem 80 (by decide +kernel) rfl), (pw_mem 81 (by decide +kernel) rfl)⟩
theorem mi_X9_11 : pw_MI RX9 11 mX8_init 1 := ⟨⟨by decide, by decide, by decide +kernel, by decide⟩, rfl, rfl, cd_X8_init, (pw_mem 309 (by decide +kernel) rfl), (pw_mem 244 (by decide +kernel) rfl), (pw_mem 67 (by decide +kernel) rfl)⟩
theorem mn_X9_22 : pw_MN RX9 22 mX5_init 0 := ⟨⟨by decide, by decide, by decide +kernel, by decide⟩, rfl, rfl, cd_X5_init, ⟨"FlushedPipes", pw_memN 311 (by decide +kernel) rfl⟩, (pw_mem 109 (by decide +kernel) rfl), (pw_mem 61 (by decide +kernel) rfl)⟩
theorem mv_X10_76 : pw_MV RX10 76 mX10_startAsTold 10 0 := ⟨⟨by decide, by decide, by decide +kernel, by decide⟩, ⟨TX10, 13, rfl⟩, cd_X10_startAsTold, (pw_mem 341 (by decide +kernel) rfl), (pw_mem 343 (by decide +kernel) rfl), (pw_mem 0 (by decide +kernel) rfl), (pw_mem 58 (by decide +kernel) rfl)⟩
theorem mv_X10_79 : pw_MV RX10 79 mX7_startAs 7 1 := ⟨⟨by decide, by decide, by decide +kernel, by decide⟩, ⟨TX7, 3, rfl⟩, cd_X7_startAs, (pw_mem 345 (by decide +kernel) rfl), (pw_mem 346 (by decide +kernel) rfl), (pw_mem 347 (by decide +kernel) rfl), (pw_mem 60 (by decide +kernel) rfl)⟩
theorem mv_X7_23 : pw_MV RX7 23 mX5_copyFrom 5 1 := ⟨⟨by decide, by decide, by decide +kernel, by decide⟩, ⟨TX5, 2, rfl⟩, cd_X5_copyFrom, (pw_mem 349 (by decide +kernel) rfl), (pw_mem 350 (by decide +kernel) rfl), (pw_mem 351 (by decide +kernel) rfl), (pw_mem 61 (by decide +kernel) rfl)⟩
theorem ac_X5_19 : Cond.methodLink RX5 19 arraycopyName ∈ pw_gw ∧ Cond.native arraycopyName ∈ pw_gw ∧ Cond.static arraycopyName ∈ pw_gw ∧ Cond.initialized "java/lang/System" ∈ pw_gw := ⟨(pw_mem 353 (by decide +kernel) rfl), (pw_mem 355 (by decide +kernel) rfl), (pw_mem 354 (by decide +kernel) rfl), (pw_mem 70 (by decide +kernel) rfl)⟩
theorem mv_X7_37 : pw_MV RX7 37 mX4_setFirst 4 0 := ⟨⟨by decide, by decide, by decide +kernel, by decide⟩, ⟨TX4, 3, rfl⟩, cd_X4_setFirst, (pw_mem 356 (by decide +kernel) rfl), (pw_mem 131 (by decide +kernel) rfl), (pw_mem 132 (by decide +kernel) rfl), (pw_mem 62 (by decide +kernel) rfl)⟩
theorem mv_X10_83 : pw_MV RX10 83 mX3_forgetAll 3 0 := ⟨⟨by decide, by decide, by decide +kernel, by decide⟩, ⟨TX3, 2, rfl⟩, cd_X3_forgetAll, (pw_mem 357 (by decide +kernel) rfl), (pw_mem 358 (by decide +kernel) rfl), (pw_mem 359 (by decide +kernel) rfl), (pw_mem 63 (by decide +kernel) rfl)⟩
theorem mv_X10_86 : pw_MV RX10 86 mX10_forgetSeen 10 0 := ⟨⟨by decide, by decide, by decide +kernel, by decide⟩, ⟨TX10, 13, rfl⟩, cd_X10_forgetSeen, (pw_mem 361 (by decide +kernel) rfl), (pw_mem 363 (by decide +kernel) rfl), (pw_mem 1 (by decide +kernel) rfl), (pw_mem 58 (by decide +kernel) rfl)⟩
theorem mv_L_13 : pw_MV RL 13 mX10_type 10 1 := ⟨⟨by decide, by decide, by decide +kernel, by decide⟩, ⟨TX10, 13, rfl⟩, cd_X10_type, (pw_mem 405 (by decide +kernel) rfl), (pw_mem 406 (by decide +kernel) rfl), (pw_mem 407 (by decide +kernel) rfl), (pw_mem 58 (by decide +kernel) rfl)⟩
theorem mv_X10_96 : pw_MV RX10 96 mX6_isFull 6 0 := ⟨⟨by decide, by decide, by decide +kernel, by decide⟩, ⟨TX6, 3, rfl⟩, cd_X6_isFull, (pw_mem 409 (by decide +kernel) rfl), (pw_mem 410 (by decide +kernel) rfl), (pw_mem 411 (by decide +kernel) rfl), (pw_mem 59 (by decide +kernel) rfl)⟩
theorem mv_X10_100 : pw_MV RX10 100 mX6_append 6 1 := ⟨⟨by decide, by decide, by decide +kernel, by decide⟩, ⟨TX6, 3, rfl⟩, cd_X6_append, (pw_mem 413 (by decide +kernel) rfl), (pw_mem 414 (by decide +kernel) rfl), (pw_mem 415 (by decide +kernel) rfl), (pw_mem 59 (by decide +kernel) rfl)⟩
theorem mv_L_18 : pw_MV RL 18 mX10_clear 10 0 := ⟨⟨by decide, by decide, by decide +kernel, by decide⟩, ⟨TX10, 13, rfl⟩, cd_X10_clear, (pw_mem 417 (by decide +kernel) rfl), (pw_mem 418 (by decide +kernel) rfl), (pw_mem 419 (by decide +kernel) rfl), (pw_mem 58 (by decide +kernel) rfl)⟩
theorem mv_L_23 : pw_MV RL 23 mX10_machine 10 0 := ⟨⟨by decide, by decide, by decide +kernel, by decide⟩, ⟨TX10, 13, rfl⟩, cd_X10_machine, (pw_mem 421 (by decide +kernel) rfl), (pw_mem 422 (by decide +kernel) rfl), (pw_mem 423 (by decide +kernel) rfl), (pw_mem 58 (by decide +kernel) rfl)⟩
theorem mv_X10_107 : pw_MV RX10 107 mX6_readAll 6 1 := ⟨⟨by decide, by decide, by decide +kernel, by decide⟩, ⟨TX6, 3, rfl⟩, cd_X6_readAll, (pw_mem 425 (by decide +kernel) rfl), (pw_mem 426 (by decide +kernel) rfl), (pw_mem 427 (by decide +kernel) rfl), (pw_mem 59 (by decide +kernel) rfl)⟩
theorem mv_X6_19 : pw_MV RX6 19 mX9_forgetAll 9 0 := ⟨⟨by decide, by decide, by decide +kernel, by decide⟩, ⟨TX9, 6, rfl⟩, cd_X9_forgetAll, (pw_mem 429 (by decide +kernel) rfl), (pw_mem 430 (by decide +kernel) rfl), (pw_mem 431 (by decide +kernel) rfl), (pw_mem 69 (by decide +kernel) rfl)⟩
theorem mv_X9_38 : pw_MV RX9 38 mX8_forgetAll 8 0 := ⟨⟨by decide, by decide, by decide +kernel, by decide⟩, ⟨TX8, 7, rfl⟩, cd_X8_forgetAll, (pw_mem 433 (by decide +kernel) rfl), (pw_mem 251 (by decide +kernel) rfl), (pw_mem 252 (by decide +kernel) rfl), (pw_mem 67 (by decide +kernel) rfl)⟩
theorem mv_X9_41 : pw_MV RX9 41 mX5_forgetAll 5 0 := ⟨⟨by decide, by decide, by decide +kernel, by decide⟩, ⟨TX5, 2, rfl⟩, cd_X5_forgetAll, (pw_mem 434 (by decide +kernel) rfl), (pw_mem 435 (by decide +kernel) rfl), (pw_mem 436 (by decide +kernel) rfl), (pw_mem 61 (by decide +kernel) rfl)⟩
theorem mv_X6_27 : pw_MV RX6 27 mX6_peek 6 0 := ⟨⟨by decide, by decide, by decide +kernel, by decide⟩, ⟨TX6, 3, rfl⟩, cd_X6_peek, (pw_mem 438 (by decide +kernel) rfl), (pw_mem 440 (by decide +kernel) rfl), (pw_mem 2 (by decide +kernel) rfl), (pw_mem 59 (by decide +kernel) rfl)⟩
theorem mv_X6_31 : pw_MV RX6 31 mX6_readItem 6 1 := ⟨⟨by decide, by decide, by decide +kernel, by decide⟩, ⟨TX6, 3, rfl⟩, cd_X6_readItem, (pw_mem 442 (by decide +kernel) rfl), (pw_mem 444 (by decide +kernel) rfl), (pw_mem 3 (by decide +kernel) rfl), (pw_mem 59 (by decide +kernel) rfl)⟩
theorem mv_X6_44 : pw_MV RX6 44 mX6_readFact 6 2 := ⟨⟨by decide, by decide, by decide +kernel, by decide⟩, ⟨TX6, 3, rfl⟩, cd_X6_readFact, (pw_mem 446 (by decide +kernel) rfl), (pw_mem 448 (by decide +kernel) rfl), (pw_mem 4 (by decide +kernel) rfl), (pw_mem 59 (by decide +kernel) rfl)⟩
theorem mv_X6_55 : pw_MV RX6 55 mX6_readTerm 6 2 := ⟨⟨by decide, by decide, by decide +kernel, by decide⟩, ⟨TX6, 3, rfl⟩, cd_X6_readTerm, (pw_mem 450 (by decide +kernel) rfl), (pw_mem 452 (by decide +kernel) rfl), (pw_mem 5 (by decide +kernel) rfl), (pw_mem 59 (by decide +kernel) rfl)⟩
theorem mv_X6_67 : pw_MV RX6 67 mX8_make 8 3 := ⟨⟨by decide, by decide, by decide +kernel, by decide⟩, ⟨TX8, 7, rfl⟩, cd_X8_make, (pw_mem 454 (by decide +kernel) rfl), (pw_mem 455 (by decide +kernel) rfl), (pw_mem 456 (by decide +kernel) rfl), (pw_mem 67 (by decide +kernel) rfl)⟩
theorem mv_X8_43 : pw_MV RX8 43 mX8_has 8 1 := ⟨⟨by decide, by decide, by decide +kernel, by decide⟩, ⟨TX8, 7, rfl⟩, cd_X8_has, (pw_mem 458 (by decide +kernel) rfl), (pw_mem 459 (by decide +kernel) rfl), (pw_mem 460 (by decide +kernel) rfl), (pw_mem 67 (by decide +kernel) rfl)⟩
theorem mv_X8_47 : pw_MV RX8 47 mX8_append 8 4 := ⟨⟨by decide, by decide, by decide +kernel, by decide⟩, ⟨TX8, 7, rfl⟩, cd_X8_append, (pw_mem 462 (by decide +kernel) rfl), (pw_mem 464 (by decide +kernel) rfl), (pw_mem 6 (by decide +kernel) rfl), (pw_mem 67 (by decide +kernel) rfl)⟩
theorem mv_X6_59 : pw_MV RX6 59 mX6_accept 6 1 := ⟨⟨by decide, by decide, by decide +kernel, by decide⟩, ⟨TX6, 3, rfl⟩, cd_X6_accept, (pw_mem 466 (by decide +kernel) rfl), (pw_mem 468 (by decide +kernel) rfl), (pw_mem 7 (by decide +kernel) rfl), (pw_mem 59 (by decide +kernel) rfl)⟩
theorem mv_X6_63 : pw_MV RX6 63 mX9_addFact 9 3 := ⟨⟨by decide, by decide, by decide +kernel, by decide⟩, ⟨TX9, 6, rfl⟩, cd_X9_addFact, (pw_mem 470 (by decide +kernel) rfl), (pw_mem 471 (by decide +kernel) rfl), (pw_mem 472 (by decide +kernel) rfl), (pw_mem 69 (by decide +kernel) rfl)⟩
theorem mv_X6_48 : pw_MV RX6 48 mX6_readInstruction 6 2 := ⟨⟨by decide, by decide, by decide +kernel, by decide⟩, ⟨TX6, 3, rfl⟩, cd_X6_readInstruction, (pw_mem 474 (by decide +kernel) rfl), (pw_mem 476 (by decide +kernel) rfl), (pw_mem 8 (by decide +kernel) rfl), (pw_mem 59 (by decide +kernel) rfl)⟩
theorem ms_X6_78 : pw_MS RX6 78 mX5_codeOf 4 := ⟨⟨by decide, by decide, by decide +kernel, by decide⟩, cd_X5_codeOf, (pw_mem 478 (by decide +kernel) rfl), (pw_mem 479 (by decide +kernel) rfl), (pw_mem 61 (by decide +kernel) rfl)⟩
theorem mv_X6_82 : pw_MV RX6 82 mX5_set 5 2 := ⟨⟨by decide, by decide, by decide +kernel, by decide⟩, ⟨TX5, 2, rfl⟩, cd_X5_set, (pw_mem 481 (by decide +kernel) rfl), (pw_mem 482 (by decide +kernel) rfl), (pw_mem 483 (by decide +kernel) rfl), (pw_mem 61 (by decide +kernel) rfl)⟩
theorem mv_X6_39 : pw_MV RX6 39 mX8_makeLasting 8 0 := ⟨⟨by decide, by decide, by decide +kernel, by decide⟩, ⟨TX8, 7, rfl⟩, cd_X8_makeLasting, (pw_mem 485 (by decide +kernel) rfl), (pw_mem 486 (by decide +kernel) rfl), (pw_mem 487 (by decide +kernel) rfl), (pw_mem 67 (by decide +kernel) rfl)⟩
theorem mv_L_27 : pw_MV RL 27 mX10_instruction 10 2 := ⟨⟨by decide, by decide, by decide +kernel, by decide⟩, ⟨TX10, 13, rfl⟩, cd_X10_instruction, (pw_mem 489 (by decide +kernel) rfl), (pw_mem 490 (by decide +kernel) rfl), (pw_mem 491 (by decide +kernel) rfl), (pw_mem 58 (by decide +kernel) rfl)⟩
theorem mv_X10_115 : pw_MV RX10 115 mX5_has 5 1 := ⟨⟨by decide, by decide, by decide +kernel, by decide⟩, ⟨TX5, 2, rfl⟩, cd_X5_has, (pw_mem 493 (by decide +kernel) rfl), (pw_mem 494 (by decide +kernel) rfl), (pw_mem 495 (by decide +kernel) rfl), (pw_mem 61 (by decide +kernel) rfl)⟩
theorem mv_X10_121 : pw_MV RX10 121 mX5_codeAt 5 1 := ⟨⟨by decide, by decide, by decide +kernel, by decide⟩, ⟨TX5, 2, rfl⟩, cd_X5_codeAt, (pw_mem 497 (by decide +kernel) rfl), (pw_mem 498 (by decide +kernel) rfl), (pw_mem 499 (by decide +kernel) rfl), (pw_mem 61 (by decide +kernel) rfl)⟩
theorem mv_X5_25 : pw_MV RX5 25 mX5_has 5 1 := ⟨⟨by decide, by decide, by decide +kernel, by decide⟩, ⟨TX5, 2, rfl⟩, cd_X5_has, (pw_mem 501 (by decide +kernel) rfl), (pw_mem 494 (by decide +kernel) rfl), (pw_mem 495 (by decide +kernel) rfl), (pw_mem 61 (by decide +kernel) rfl)⟩
theorem ms_X10_125 : pw_MS RX10 125 mX5_kindOf 1 := ⟨⟨by decide, by decide, by decide +kernel, by decide⟩, cd_X5_kindOf, (pw_mem 502 (by decide +kernel) rfl), (pw_mem 503 (by decide +kernel) rfl), (pw_mem 61 (by decide +kernel) rfl)⟩
theorem ms_X10_128 : pw_MS RX10 128 mX5_targetOf 1 := ⟨⟨by decide, by decide, by decide +kernel, by decide⟩, cd_X5_targetOf, (pw_mem 505 (by decide +kernel) rfl), (pw_mem 506 (by decide +kernel) rfl), (pw_mem 61 (by decide +kernel) rfl)⟩
theorem ms_X10_131 : pw_MS RX10 131 mX5_firstOf 1 := ⟨⟨by decide, by decide, by decide +kernel, by decide⟩, cd_X5_firstOf, (pw_mem 508 (by decide +kernel) rfl), (pw_mem 509 (by decide +kernel) rfl), (pw_mem 61 (by decide +kernel) rfl)⟩
theorem ms_X10_134 : pw_MS RX10 134 mX5_secondOf 1 := ⟨⟨by decide, by decide, by decide +kernel, by decide⟩, cd_X5_secondOf, (pw_mem 511 (by decide +kernel) rfl), (pw_mem 512 (by decide +kernel) rfl), (pw_mem 61 (by decide +kernel) rfl)⟩
theorem mv_L_32 : pw_MV RL 32 mX10_puts 10 5 := ⟨⟨by decide, by decide, by decide +kernel, by decide⟩, ⟨TX10, 13, rfl⟩, cd_X10_puts, (pw_mem 514 (by decide +kernel) rfl), (pw_mem 515 (by decide +kernel) rfl), (pw_mem 516 (by decide +kernel) rfl), (pw_mem 58 (by decide +kernel) rfl)⟩
theorem ms_X10_138 : pw_MS RX10 138 mX10_isInstruction 4 := ⟨⟨by decide, by decide, by decide +kernel, by decide⟩, cd_X10_isInstruction, (pw_mem 518 (by decide +kernel) rfl), (pw_mem 519 (by decide +kernel) rfl), (pw_mem 58 (by decide +kernel) rfl)⟩
theorem ms_X10_154 : pw_MS RX10 154 mX10_isRegister 1 := ⟨⟨by decide, by decide, by decide +kernel, by decide⟩, cd_X10_isRegister, (pw_mem 521 (by decide +kernel) rfl), (pw_mem 522 (by decide +kernel) rfl), (pw_mem 58 (by decide +kernel) rfl)⟩
theorem ms_X10_142 : pw_MS RX10 142 mX5_codeOf 4 := ⟨⟨by decide, by decide, by decide +kernel, by decide⟩, cd_X5_codeOf, (pw_mem 524 (by decide +kernel) rfl), (pw_mem 479 (by decide +kernel) rfl), (pw_mem 61 (by decide +kernel) rfl)⟩
theorem mv_X10_146 : pw_MV RX10 146 mX3_remember 3 1 := ⟨⟨by decide, by decide, by decide +kernel, by decide⟩, ⟨TX3, 2, rfl⟩, cd_X3_remember, (pw_mem 525 (by decide +kernel) rfl), (pw_mem 526 (by decide +kernel) rfl), (pw_mem 527 (by decide +kernel) rfl), (pw_mem 63 (by decide +kernel) rfl)⟩
theorem mv_X3_22 : pw_MV RX3 22 mX3_dropOldest 3 0 := ⟨⟨by decide, by decide, by decide +kernel, by decide⟩, ⟨TX3, 2, rfl⟩, cd_X3_dropOldest, (pw_mem 529 (by decide +kernel) rfl), (pw_mem 531 (by decide +kernel) rfl), (pw_mem 9 (by decide +kernel) rfl), (pw_mem 63 (by decide +kernel) rfl)⟩
theorem mv_X3_25 : pw_MV RX3 25 mX7_copyFrom 7 1 := ⟨⟨by decide, by decide, by decide +kernel, by decide⟩, ⟨TX7, 3, rfl⟩, cd_X7_copyFrom, (pw_mem 533 (by decide +kernel) rfl), (pw_mem 534 (by decide +kernel) rfl), (pw_mem 535 (by decide +kernel) rfl), (pw_mem 60 (by decide +kernel) rfl)⟩
theorem mv_X7_27 : pw_MV RX7 27 mX4_copyFrom 4 1 := ⟨⟨by decide, by decide, by decide +kernel, by decide⟩, ⟨TX4, 3, rfl⟩, cd_X4_copyFrom, (pw_mem 537 (by decide +kernel) rfl), (pw_mem 538 (by decide +kernel) rfl), (pw_mem 539 (by decide +kernel) rfl), (pw_mem 62 (by decide +kernel) rfl)⟩
theorem mv_X10_150 : pw_MV RX10 150 mX5_set 5 2 := ⟨⟨by decide, by decide, by decide +kernel, by decide⟩, ⟨TX5, 2, rfl⟩, cd_X5_set, (pw_mem 541 (by decide +kernel) rfl), (pw_mem 482 (by decide +kernel) rfl), (pw_mem 483 (by decide +kernel) rfl), (pw_mem 61 (by decide +kernel) rfl)⟩
theorem mv_L_37 : pw_MV RL 37 mX10_leaves 10 1 := ⟨⟨by decide, by decide, by decide +kernel, by decide⟩, ⟨TX10, 13, rfl⟩, cd_X10_leaves, (pw_mem 542 (by decide +kernel) rfl), (pw_mem 543 (by decide +kernel) rfl), (pw_mem 544 (by decide +kernel) rfl), (pw_mem 58 (by decide +kernel) rfl)⟩
theorem mv_X10_157 : pw_MV RX10 157 mX9_has 9 1 := ⟨⟨by decide, by decide, by decide +kernel, by decide⟩, ⟨TX9, 6, rfl⟩, cd_X9_has, (pw_mem 546 (by decide +kernel) rfl), (pw_mem 547 (by decide +kernel) rfl), (pw_mem 548 (by decide +kernel) rfl), (pw_mem 69 (by decide +kernel) rfl)⟩
theorem mv_L_41 : pw_MV RL 41 mX10_tells 10 3 := ⟨⟨by decide, by decide, by decide +kernel, by decide⟩, ⟨TX10, 13, rfl⟩, cd_X10_tells, (pw_mem 550 (by decide +kernel) rfl), (pw_mem 551 (by decide +kernel) rfl), (pw_mem 552 (by decide +kernel) rfl), (pw_mem 58 (by decide +kernel) rfl)⟩
theorem mv_X10_164 : pw_MV RX10 164 mX4_is 4 3 := ⟨⟨by decide, by decide, by decide +kernel, by decide⟩, ⟨TX4, 3, rfl⟩, cd_X4_is, (pw_mem 554 (by decide +kernel) rfl), (pw_mem 555 (by decide +kernel) rfl), (pw_mem 556 (by decide +kernel) rfl), (pw_mem 62 (by decide +kernel) rfl)⟩
theorem mv_X10_168 : pw_MV RX10 168 mX4_set 4 3 := ⟨⟨by decide, by decide, by decide +kernel, by decide⟩, ⟨TX4, 3, rfl⟩, cd_X4_set, (pw_mem 558 (by decide +kernel) rfl), (pw_mem 135 (by decide +kernel) rfl), (pw_mem 136 (by decide +kernel) rfl), (pw_mem 62 (by decide +kernel) rfl)⟩
theorem mv_L_46 : pw_MV RL 46 mX10_undo 10 0 := ⟨⟨by decide, by decide, by decide +kernel, by decide⟩, ⟨TX10, 13, rfl⟩, cd_X10_undo, (pw_mem 559 (by decide +kernel) rfl), (pw_mem 560 (by decide +kernel) rfl), (pw_mem 561 (by decide +kernel) rfl), (pw_mem 58 (by decide +kernel) rfl)⟩
theorem mv_X10_172 : pw_MV RX10 172 mX3_restoreLatest 3 1 := ⟨⟨by decide, by decide, by decide +kernel, by decide⟩, ⟨TX3, 2, rfl⟩, cd_X3_restoreLatest, (pw_mem 563 (by decide +kernel) rfl), (pw_mem 564 (by decide +kernel) rfl), (pw_mem 565 (by decide +kernel) rfl), (pw_mem 63 (by decide +kernel) rfl)⟩
theorem mv_L_50 : pw_MV RL 50 mX10_fact 10 1 := ⟨⟨by decide, by decide, by decide +kernel, by decide⟩, ⟨TX10, 13, rfl⟩, cd_X10_fact, (pw_mem 567 (by decide +kernel) rfl), (pw_mem 568 (by decide +kernel) rfl), (pw_mem 569 (by decide +kernel) rfl), (pw_mem 58 (by decide +kernel) rfl)⟩
theorem mv_X10_179 : pw_MV RX10 179 mX8_dropPassing 8 0 := ⟨⟨by decide, by decide, by decide +kernel, by decide⟩, ⟨TX8, 7, rfl⟩, cd_X8_dropPassing, (pw_mem 571 (by decide +kernel) rfl), (pw_mem 572 (by decide +kernel) rfl), (pw_mem 573 (by decide +kernel) rfl), (pw_mem 67 (by decide +kernel) rfl)⟩
theorem mv_X10_184 : pw_MV RX10 184 mX9_firstOf 9 1 := ⟨⟨by decide, by decide, by decide +kernel, by decide⟩, ⟨TX9, 6, rfl⟩, cd_X9_firstOf, (pw_mem 575 (by decide +kernel) rfl), (pw_mem 576 (by decide +kernel) rfl), (pw_mem 577 (by decide +kernel) rfl), (pw_mem 69 (by decide +kernel) rfl)⟩
theorem mv_X9_46 : pw_MV RX9 46 mX9_has 9 1 := ⟨⟨by decide, by decide, by decide +kernel, by decide⟩, ⟨TX9, 6, rfl⟩, cd_X9_has, (pw_mem 579 (by decide +kernel) rfl), (pw_mem 547 (by decide +kernel) rfl), (pw_mem 548 (by decide +kernel) rfl), (pw_mem 69 (by decide +kernel) rfl)⟩
theorem mv_X10_185 : pw_MV RX10 185 mX9_secondOf 9 1 := ⟨⟨by decide, by decide, by decide +kernel, by decide⟩, ⟨TX9, 6, rfl⟩, cd_X9_secondOf, (pw_mem 580 (by decide +kernel) rfl), (pw_mem 581 (by decide +kernel) rfl), (pw_mem 582 (by decide +kernel) rfl), (pw_mem 69 (by decide +kernel) rfl)⟩
theorem mv_X10_186 : pw_MV RX10 186 mX10_judge 10 2 := ⟨⟨by decide, by decide, by decide +kernel, by decide⟩, ⟨TX10, 13, rfl⟩, cd_X10_judge, (pw_mem 584 (by decide +kernel) rfl), (pw_mem 586 (by decide +kernel) rfl), (pw_mem 10 (by decide +kernel) rfl), (pw_mem 58 (by decide +kernel) rfl)⟩
theorem mv_X10_190 : pw_MV RX10 190 mX1_closeBy 1 2 := ⟨⟨by decide, by decide, by decide +kernel, by decide⟩, ⟨TX1, 5, rfl⟩, cd_X1_closeBy, (pw_mem 588 (by decide +kernel) rfl), (pw_mem 589 (by decide +kernel) rfl), (pw_mem 590 (by decide +kernel) rfl), (pw_mem 65 (by decide +kernel) rfl)⟩
theorem ms_X1_34 : pw_MS RX1 34 mJ9_min_7cf53 2 := ⟨⟨by decide, by decide, by decide +kernel, by decide⟩, cd_J9_min_7cf53, (pw_mem 592 (by decide +kernel) rfl), (pw_mem 593 (by decide +kernel) rfl), (pw_mem 68 (by decide +kernel) rfl)⟩
theorem mv_X1_48 : pw_MV RX1 48 mX9_firstOf 9 1 := ⟨⟨by decide, by decide, by decide +kernel, by decide⟩, ⟨TX9, 6, rfl⟩, cd_X9_firstOf, (pw_mem 595 (by decide +kernel) rfl), (pw_mem 576 (by decide +kernel) rfl), (pw_mem 577 (by decide +kernel) rfl), (pw_mem 69 (by decide +kernel) rfl)⟩
theorem mv_X1_52 : pw_MV RX1 52 mX9_secondOf 9 1 := ⟨⟨by decide, by decide, by decide +kernel, by decide⟩, ⟨TX9, 6, rfl⟩, cd_X9_secondOf, (pw_mem 596 (by decide +kernel) rfl), (pw_mem 581 (by decide +kernel) rfl), (pw_mem 582 (by decide +kernel) rfl), (pw_mem 69 (by decide +kernel) rfl)⟩
theorem mv_X1_55 : pw_MV RX1 55 mX1_merge 1 2 := ⟨⟨by decide, by decide, by decide +kernel, by decide⟩, ⟨TX1, 5, rfl⟩, cd_X1_merge, (pw_mem 597 (by decide +kernel) rfl), (pw_mem 599 (by decide +kernel) rfl), (pw_mem 11 (by decide +kernel) rfl), (pw_mem 65 (by decide +kernel) rfl)⟩
theorem mv_X1_59 : pw_MV RX1 59 mX1_spread 1 0 := ⟨⟨by decide, by decide, by decide +kernel, by decide⟩, ⟨TX1, 5, rfl⟩, cd_X1_spread, (pw_mem 601 (by decide +kernel) rfl), (pw_mem 603 (by decide +kernel) rfl), (pw_mem 12 (by decide +kernel) rfl), (pw_mem 65 (by decide +kernel) rfl)⟩
theorem mv_X1_66 : pw_MV RX1 66 mX1_spreadOnce 1 0 := ⟨⟨by decide, by decide, by decide +kernel, by decide⟩, ⟨TX1, 5, rfl⟩, cd_X1_spreadOnce, (pw_mem 605 (by decide +kernel) rfl), (pw_mem 607 (by decide +kernel) rfl), (pw_mem 13 (by decide +kernel) rfl), (pw_mem 65 (by decide +kernel) rfl)⟩
theorem ms_X1_70 : pw_MS RX1 70 mJ7_fill_53178 2 := ⟨⟨by decide, by decide, by decide +kernel, by decide⟩, cd_J7_fill_53178, (pw_mem 609 (by decide +kernel) rfl), (pw_mem 610 (by decide +kernel) rfl), (pw_mem 72 (by decide +kernel) rfl)⟩
theorem mv_X1_79 : pw_MV RX1 79 mX1_findMatch 1 2 := ⟨⟨by decide, by decide, by decide +kernel, by decide⟩, ⟨TX1, 5, rfl⟩, cd_X1_findMatch, (pw_mem 612 (by decide +kernel) rfl), (pw_mem 614 (by decide +kernel) rfl), (pw_mem 14 (by decide +kernel) rfl), (pw_mem 65 (by decide +kernel) rfl)⟩
theorem mv_X10_194 : pw_MV RX10 194 mX1_same 1 2 := ⟨⟨by decide, by decide, by decide +kernel, by decide⟩, ⟨TX1, 5, rfl⟩, cd_X1_same, (pw_mem 616 (by decide +kernel) rfl), (pw_mem 617 (by decide +kernel) rfl), (pw_mem 618 (by decide +kernel) rfl), (pw_mem 65 (by decide +kernel) rfl)⟩
theorem mv_X10_198 : pw_MV RX10 198 mX1_rulesOut 1 2 := ⟨⟨by decide, by decide, by decide +kernel, by decide⟩, ⟨TX1, 5, rfl⟩, cd_X1_rulesOut, (pw_mem 620 (by decide +kernel) rfl), (pw_mem 621 (by decide +kernel) rfl), (pw_mem 622 (by decide +kernel) rfl), (pw_mem 65 (by decide +kernel) rfl)⟩
theorem mv_X1_62 : pw_MV RX1 62 mX1_same 1 2 := ⟨⟨by decide, by decide, by decide +kernel, by decide⟩, ⟨TX1, 5, rfl⟩, cd_X1_same, (pw_mem 624 (by decide +kernel) rfl), (pw_mem 617 (by decide +kernel) rfl), (pw_mem 618 (by decide +kernel) rfl), (pw_mem 65 (by decide +kernel) rfl)⟩
theorem mv_X10_202 : pw_MV RX10 202 mX1_assume 1 2 := ⟨⟨by decide, by decide, by decide +kernel, by decide⟩, ⟨TX1, 5, rfl⟩, cd_X1_assume, (pw_mem 625 (by decide +kernel) rfl), (pw_mem 626 (by decide +kernel) rfl), (pw_mem 627 (by decide +kernel) rfl), (pw_mem 65 (by decide +kernel) rfl)⟩
theorem mv_L_54 : pw_MV RL 54 mX10_ruled 10 0 := ⟨⟨by decide, by decide, by decide +kernel, by decide⟩, ⟨TX10, 13, rfl⟩, cd_X10_ruled, (pw_mem 629 (by decide +kernel) rfl), (pw_mem 630 (by decide +kernel) rfl), (pw_mem 631 (by decide +kernel) rfl), (pw_mem 58 (by decide +kernel) rfl)⟩
theorem mv_L_58 : pw_MV RL 58 mX10_equal 10 3 := ⟨⟨by decide, by decide, by decide +kernel, by decide⟩, ⟨TX10, 13, rfl⟩, cd_X10_equal, (pw_mem 633 (by decide +kernel) rfl), (pw_mem 634 (by decide +kernel) rfl), (pw_mem 635 (by decide +kernel) rfl), (pw_mem 58 (by decide +kernel) rfl)⟩
theorem mv_X10_205 : pw_MV RX10 205 mX10_goThrough 10 1 := ⟨⟨by decide, by decide, by decide +kernel, by decide⟩, ⟨TX10, 13, rfl⟩, cd_X10_goThrough, (pw_mem 637 (by decide +kernel) rfl), (pw_mem 639 (by decide +kernel) rfl), (pw_mem 15 (by decide +kernel) rfl), (pw_mem 58 (by decide +kernel) rfl)⟩
theorem mv_X10_213 : pw_MV RX10 213 mX2_goPlain 2 2 := ⟨⟨by decide, by decide, by decide +kernel, by decide⟩, ⟨TX2, 6, rfl⟩, cd_X2_goPlain, (pw_mem 641 (by decide +kernel) rfl), (pw_mem 642 (by decide +kernel) rfl), (pw_mem 643 (by decide +kernel) rfl), (pw_mem 64 (by decide +kernel) rfl)⟩
theorem ms_X2_39 : pw_MS RX2 39 mX5_kindOf 1 := ⟨⟨by decide, by decide, by decide +kernel, by decide⟩, cd_X5_kindOf, (pw_mem 645 (by decide +kernel) rfl), (pw_mem 503 (by decide +kernel) rfl), (pw_mem 61 (by decide +kernel) rfl)⟩
theorem ms_X2_43 : pw_MS RX2 43 mX5_firstOf 1 := ⟨⟨by decide, by decide, by decide +kernel, by decide⟩, cd_X5_firstOf, (pw_mem 646 (by decide +kernel) rfl), (pw_mem 509 (by decide +kernel) rfl), (pw_mem 61 (by decide +kernel) rfl)⟩
theorem ms_X2_46 : pw_MS RX2 46 mX5_secondOf 1 := ⟨⟨by decide, by decide, by decide +kernel, by decide⟩, cd_X5_secondOf, (pw_mem 647 (by decide +kernel) rfl), (pw_mem 512 (by decide +kernel) rfl), (pw_mem 61 (by decide +kernel) rfl)⟩
theorem ms_X2_49 : pw_MS RX2 49 mX5_targetOf 1 := ⟨⟨by decide, by decide, by decide +kernel, by decide⟩, cd_X5_targetOf, (pw_mem 648 (by decide +kernel) rfl), (pw_mem 506 (by decide +kernel) rfl), (pw_mem 61 (by decide +kernel) rfl)⟩
theorem ms_X2_52 : pw_MS RX2 52 mX2_headOf 1 := ⟨⟨by decide, by decide, by decide +kernel, by decide⟩, cd_X2_headOf, (pw_mem 649 (by decide +kernel) rfl), (pw_mem 650 (by decide +kernel) rfl), (pw_mem 64 (by decide +kernel) rfl)⟩
theorem mv_X2_55 : pw_MV RX2 55 mX8_make 8 3 := ⟨⟨by decide, by decide, by decide +kernel, by decide⟩, ⟨TX8, 7, rfl⟩, cd_X8_make, (pw_mem 652 (by decide +kernel) rfl), (pw_mem 455 (by decide +kernel) rfl), (pw_mem 456 (by decide +kernel) rfl), (pw_mem 67 (by decide +kernel) rfl)⟩
theorem mv_X10_217 : pw_MV RX10 217 mX2_goPiped 2 3 := ⟨⟨by decide, by decide, by decide +kernel, by decide⟩, ⟨TX2, 6, rfl⟩, cd_X2_goPiped, (pw_mem 653 (by decide +kernel) rfl), (pw_mem 654 (by decide +kernel) rfl), (pw_mem 655 (by decide +kernel) rfl), (pw_mem 64 (by decide +kernel) rfl)⟩
theorem mv_X2_66 : pw_MV RX2 66 mX2_waitFrom 2 3 := ⟨⟨by decide, by decide, by decide +kernel, by decide⟩, ⟨TX2, 6, rfl⟩, cd_X2_waitFrom, (pw_mem 657 (by decide +kernel) rfl), (pw_mem 659 (by decide +kernel) rfl), (pw_mem 16 (by decide +kernel) rfl), (pw_mem 64 (by decide +kernel) rfl)⟩
theorem mv_X2_73 : pw_MV RX2 73 mX2_isReady 2 3 := ⟨⟨by decide, by decide, by decide +kernel, by decide⟩, ⟨TX2, 6, rfl⟩, cd_X2_isReady, (pw_mem 661 (by decide +kernel) rfl), (pw_mem 663 (by decide +kernel) rfl), (pw_mem 17 (by decide +kernel) rfl), (pw_mem 64 (by decide +kernel) rfl)⟩
theorem mv_X2_77 : pw_MV RX2 77 mX2_showsMaker 2 3 := ⟨⟨by decide, by decide, by decide +kernel, by decide⟩, ⟨TX2, 6, rfl⟩, cd_X2_showsMaker, (pw_mem 665 (by decide +kernel) rfl), (pw_mem 667 (by decide +kernel) rfl), (pw_mem 18 (by decide +kernel) rfl), (pw_mem 64 (by decide +kernel) rfl)⟩
theorem mv_X2_80 : pw_MV RX2 80 mX4_shows 4 1 := ⟨⟨by decide, by decide, by decide +kernel, by decide⟩, ⟨TX4, 3, rfl⟩, cd_X4_shows, (pw_mem 669 (by decide +kernel) rfl), (pw_mem 670 (by decide +kernel) rfl), (pw_mem 671 (by decide +kernel) rfl), (pw_mem 62 (by decide +kernel) rfl)⟩
theorem mv_X2_70 : pw_MV RX2 70 mX2_readBy 2 3 := ⟨⟨by decide, by decide, by decide +kernel, by decide⟩, ⟨TX2, 6, rfl⟩, cd_X2_readBy, (pw_mem 673 (by decide +kernel) rfl), (pw_mem 675 (by decide +kernel) rfl), (pw_mem 19 (by decide +kernel) rfl), (pw_mem 64 (by decide +kernel) rfl)⟩
theorem mv_X10_209 : pw_MV RX10 209 mX2_lastOf 2 2 := ⟨⟨by decide, by decide, by decide +kernel, by decide⟩, ⟨TX2, 6, rfl⟩, cd_X2_lastOf, (pw_mem 677 (by decide +kernel) rfl), (pw_mem 678 (by decide +kernel) rfl), (pw_mem 679 (by decide +kernel) rfl), (pw_mem 64 (by decide +kernel) rfl)⟩
theorem mv_L_62 : pw_MV RL 62 mX10_deep 10 2 := ⟨⟨by decide, by decide, by decide +kernel, by decide⟩, ⟨TX10, 13, rfl⟩, cd_X10_deep, (pw_mem 681 (by decide +kernel) rfl), (pw_mem 682 (by decide +kernel) rfl), (pw_mem 683 (by decide +kernel) rfl), (pw_mem 58 (by decide +kernel) rfl)⟩
theorem mv_X10_221 : pw_MV RX10 221 mX8_depthOf 8 1 := ⟨⟨by decide, by decide, by decide +kernel, by decide⟩, ⟨TX8, 7, rfl⟩, cd_X8_depthOf, (pw_mem 685 (by decide +kernel) rfl), (pw_mem 686 (by decide +kernel) rfl), (pw_mem 687 (by decide +kernel) rfl), (pw_mem 67 (by decide +kernel) rfl)⟩
theorem mv_L_66 : pw_MV RL 66 mX10_term 10 3 := ⟨⟨by decide, by decide, by decide +kernel, by decide⟩, ⟨TX10, 13, rfl⟩, cd_X10_term, (pw_mem 689 (by decide +kernel) rfl), (pw_mem 690 (by decide +kernel) rfl), (pw_mem 691 (by decide +kernel) rfl), (pw_mem 58 (by decide +kernel) rfl)⟩
theorem mv_X10_224 : pw_MV RX10 224 mX8_letterOf 8 2 := ⟨⟨by decide, by decide, by decide +kernel, by decide⟩, ⟨TX8, 7, rfl⟩, cd_X8_letterOf, (pw_mem 693 (by decide +kernel) rfl), (pw_mem 694 (by decide +kernel) rfl), (pw_mem 695 (by decide +kernel) rfl), (pw_mem 67 (by decide +kernel) rfl)⟩
theorem ms_X8_51 : pw_MS RX8 51 mX8_signOf 1 := ⟨⟨by decide, by decide, by decide +kernel, by decide⟩, cd_X8_signOf, (pw_mem 697 (by decide +kernel) rfl), (pw_mem 698 (by decide +kernel) rfl), (pw_mem 67 (by decide +kernel) rfl)⟩
theorem mv_L_70 : pw_MV RL 70 mX10_step 10 1 := ⟨⟨by decide, by decide, by decide +kernel, by decide⟩, ⟨TX10, 13, rfl⟩, cd_X10_step, (pw_mem 700 (by decide +kernel) rfl), (pw_mem 701 (by decide +kernel) rfl), (pw_mem 702 (by decide +kernel) rfl), (pw_mem 58 (by decide +kernel) rfl)⟩
theorem mv_X10_227 : pw_MV RX10 227 mX2_stepAt 2 1 := ⟨⟨by decide, by decide, by decide +kernel, by decide⟩, ⟨TX2, 6, rfl⟩, cd_X2_stepAt, (pw_mem 704 (by decide +kernel) rfl), (pw_mem 705 (by decide +kernel) rfl), (pw_mem 706 (by decide +kernel) rfl), (pw_mem 64 (by decide +kernel) rfl)⟩
theorem mv_L_74 : pw_MV RL 74 mX10_length 10 0 := ⟨⟨by decide, by decide, by decide +kernel, by decide⟩, ⟨TX10, 13, rfl⟩, cd_X10_length, (pw_mem 708 (by decide +kernel) rfl), (pw_mem 709 (by decide +kernel) rfl), (pw_mem 710 (by decide +kernel) rfl), (pw_mem 58 (by decide +kernel) rfl)⟩
theorem mv_L_78 : pw_MV RL 78 mX10_wrong 10 0 := ⟨⟨by decide, by decide, by decide +kernel, by decide⟩, ⟨TX10, 13, rfl⟩, cd_X10_wrong, (pw_mem 712 (by decide +kernel) rfl), (pw_mem 713 (by decide +kernel) rfl), (pw_mem 714 (by decide +kernel) rfl), (pw_mem 58 (by decide +kernel) rfl)⟩
theorem mv_X10_233 : pw_MV RX10 233 mX10_wrongBy 10 1 := ⟨⟨by decide, by decide, by decide +kernel, by decide⟩, ⟨TX10, 13, rfl⟩, cd_X10_wrongBy, (pw_mem 716 (by decide +kernel) rfl), (pw_mem 718 (by decide +kernel) rfl), (pw_mem 20 (by decide +kernel) rfl), (pw_mem 58 (by decide +kernel) rfl)⟩
theorem mv_X10_236 : pw_MV RX10 236 mX2_differing 2 0 := ⟨⟨by decide, by decide, by decide +kernel, by decide⟩, ⟨TX2, 6, rfl⟩, cd_X2_differing, (pw_mem 720 (by decide +kernel) rfl), (pw_mem 721 (by decide +kernel) rfl), (pw_mem 722 (by decide +kernel) rfl), (pw_mem 64 (by decide +kernel) rfl)⟩
theorem mv_L_82 : pw_MV RL 82 mX10_needed 10 0 := ⟨⟨by decide, by decide, by decide +kernel, by decide⟩, ⟨TX10, 13, rfl⟩, cd_X10_needed, (pw_mem 724 (by decide +kernel) rfl), (pw_mem 725 (by decide +kernel) rfl), (pw_mem 726 (by decide +kernel) rfl), (pw_mem 58 (by decide +kernel) rfl)⟩
theorem mv_L_86 : pw_MV RL 86 mX10_fewest 10 0 := ⟨⟨by decide, by decide, by decide +kernel, by decide⟩, ⟨TX10, 13, rfl⟩, cd_X10_fewest, (pw_mem 730 (by decide +kernel) rfl), (pw_mem 731 (by decide +kernel) rfl), (pw_mem 732 (by decide +kernel) rfl), (pw_mem 58 (by decide +kernel) rfl)⟩
theorem mv_X10_247 : pw_MV RX10 247 mX10_fewestOf 10 1 := ⟨⟨by decide, by decide, by decide +kernel, by decide⟩, ⟨TX10, 13, rfl⟩, cd_X10_fewestOf, (pw_mem 734 (by decide +kernel) rfl), (pw_mem 736 (by decide +kernel) rfl), (pw_mem 21 (by decide +kernel) rfl), (pw_mem 58 (by decide +kernel) rfl)⟩
theorem ms_X10_250 : pw_MS RX10 250 mJ6_bitCount_0f7a4 1 := ⟨⟨by decide, by decide, by decide +kernel, by decide⟩, cd_J6_bitCount_0f7a4, (pw_mem 738 (by decide +kernel) rfl), (pw_mem 739 (by decide +kernel) rfl), (pw_mem 73 (by decide +kernel) rfl)⟩
theorem mv_L_90 : pw_MV RL 90 mX10_broken 10 1 := ⟨⟨by decide, by decide, by decide +kernel, by decide⟩, ⟨TX10, 13, rfl⟩, cd_X10_broken, (pw_mem 744 (by decide +kernel) rfl), (pw_mem 745 (by decide +kernel) rfl), (pw_mem 746 (by decide +kernel) rfl), (pw_mem 58 (by decide +kernel) rfl)⟩
theorem mv_X10_255 : pw_MV RX10 255 mX0_sizeBy 0 1 := ⟨⟨by decide, by decide, by decide +kernel, by decide⟩, ⟨TX0, 5, rfl⟩, cd_X0_sizeBy, (pw_mem 748 (by decide +kernel) rfl), (pw_mem 749 (by decide +kernel) rfl), (pw_mem 750 (by decide +kernel) rfl), (pw_mem 66 (by decide +kernel) rfl)⟩
theorem mv_X0_55 : pw_MV RX0 55 mX4_is 4 3 := ⟨⟨by decide, by decide, by decide +kernel, by decide⟩, ⟨TX4, 3, rfl⟩, cd_X4_is, (pw_mem 752 (by decide +kernel) rfl), (pw_mem 555 (by decide +kernel) rfl), (pw_mem 556 (by decide +kernel) rfl), (pw_mem 62 (by decide +kernel) rfl)⟩
theorem mv_X0_62 : pw_MV RX0 62 mX4_copyFrom 4 1 := ⟨⟨by decide, by decide, by decide +kernel, by decide⟩, ⟨TX4, 3, rfl⟩, cd_X4_copyFrom, (pw_mem 753 (by decide +kernel) rfl), (pw_mem 538 (by decide +kernel) rfl), (pw_mem 539 (by decide +kernel) rfl), (pw_mem 62 (by decide +kernel) rfl)⟩
theorem mv_X0_66 : pw_MV RX0 66 mX4_hidesNothing 4 0 := ⟨⟨by decide, by decide, by decide +kernel, by decide⟩, ⟨TX4, 3, rfl⟩, cd_X4_hidesNothing, (pw_mem 754 (by decide +kernel) rfl), (pw_mem 755 (by decide +kernel) rfl), (pw_mem 756 (by decide +kernel) rfl), (pw_mem 62 (by decide +kernel) rfl)⟩
theorem mv_X0_70 : pw_MV RX0 70 mX0_seekOfSize 0 1 := ⟨⟨by decide, by decide, by decide +kernel, by decide⟩, ⟨TX0, 5, rfl⟩, cd_X0_seekOfSize, (pw_mem 758 (by decide +kernel) rfl), (pw_mem 760 (by decide +kernel) rfl), (pw_mem 22 (by decide +kernel) rfl), (pw_mem 66 (by decide +kernel) rfl)⟩
theorem mv_X0_90 : pw_MV RX0 90 mX0_writeProgram 0 2 := ⟨⟨by decide, by decide, by decide +kernel, by decide⟩, ⟨TX0, 5, rfl⟩, cd_X0_writeProgram, (pw_mem 762 (by decide +kernel) rfl), (pw_mem 764 (by decide +kernel) rfl), (pw_mem 23 (by decide +kernel) rfl), (pw_mem 66 (by decide +kernel) rfl)⟩
theorem mv_X0_74 : pw_MV RX0 74 mX5_forgetAll 5 0 := ⟨⟨by decide, by decide, by decide +kernel, by decide⟩, ⟨TX5, 2, rfl⟩, cd_X5_forgetAll, (pw_mem 766 (by decide +kernel) rfl), (pw_mem 435 (by decide +kernel) rfl), (pw_mem 436 (by decide +kernel) rfl), (pw_mem 61 (by decide +kernel) rfl)⟩
theorem ms_X0_109 : pw_MS RX0 109 mX5_codeOf 4 := ⟨⟨by decide, by decide, by decide +kernel, by decide⟩, cd_X5_codeOf, (pw_mem 767 (by decide +kernel) rfl), (pw_mem 479 (by decide +kernel) rfl), (pw_mem 61 (by decide +kernel) rfl)⟩
theorem mv_X0_113 : pw_MV RX0 113 mX5_set 5 2 := ⟨⟨by decide, by decide, by decide +kernel, by decide⟩, ⟨TX5, 2, rfl⟩, cd_X5_set, (pw_mem 768 (by decide +kernel) rfl), (pw_mem 482 (by decide +kernel) rfl), (pw_mem 483 (by decide +kernel) rfl), (pw_mem 61 (by decide +kernel) rfl)⟩
theorem mv_X0_94 : pw_MV RX0 94 mX8_dropPassing 8 0 := ⟨⟨by decide, by decide, by decide +kernel, by decide⟩, ⟨TX8, 7, rfl⟩, cd_X8_dropPassing, (pw_mem 769 (by decide +kernel) rfl), (pw_mem 572 (by decide +kernel) rfl), (pw_mem 573 (by decide +kernel) rfl), (pw_mem 67 (by decide +kernel) rfl)⟩
theorem mv_X0_97 : pw_MV RX0 97 mX2_goPlain 2 2 := ⟨⟨by decide, by decide, by decide +kernel, by decide⟩, ⟨TX2, 6, rfl⟩, cd_X2_goPlain, (pw_mem 770 (by decide +kernel) rfl), (pw_mem 642 (by decide +kernel) rfl), (pw_mem 643 (by decide +kernel) rfl), (pw_mem 64 (by decide +kernel) rfl)⟩
theorem mv_X0_101 : pw_MV RX0 101 mX2_goPiped 2 3 := ⟨⟨by decide, by decide, by decide +kernel, by decide⟩, ⟨TX2, 6, rfl⟩, cd_X2_goPiped, (pw_mem 771 (by decide +kernel) rfl), (pw_mem 654 (by decide +kernel) rfl), (pw_mem 655 (by decide +kernel) rfl), (pw_mem 64 (by decide +kernel) rfl)⟩
theorem mv_X0_105 : pw_MV RX0 105 mX2_differing 2 0 := ⟨⟨by decide, by decide, by decide +kernel, by decide⟩, ⟨TX2, 6, rfl⟩, cd_X2_differing, (pw_mem 772 (by decide +kernel) rfl), (pw_mem 721 (by decide +kernel) rfl), (pw_mem 722 (by decide +kernel) rfl), (pw_mem 64 (by decide +kernel) rfl)⟩
theorem mv_X10_259 : pw_MV RX10 259 mX0_numberAt 0 1 := ⟨⟨by decide, by decide, by decide +kernel, by decide⟩, ⟨TX0, 5, rfl⟩, cd_X0_numberAt, (pw_mem 773 (by decide +kernel) rfl), (pw_mem 774 (by decide +kernel) rfl), (pw_mem 775 (by decide +kernel) rfl), (pw_mem 66 (by decide +kernel) rfl)⟩
theorem mv_X0_77 : pw_MV RX0 77 mX5_codeAt 5 1 := ⟨⟨by decide, by decide, by decide +kernel, by decide⟩, ⟨TX5, 2, rfl⟩, cd_X5_codeAt, (pw_mem 777 (by decide +kernel) rfl), (pw_mem 498 (by decide +kernel) rfl), (pw_mem 499 (by decide +kernel) rfl), (pw_mem 61 (by decide +kernel) rfl)⟩
theorem ms_X0_81 : pw_MS RX0 81 mX5_targetOf 1 := ⟨⟨by decide, by decide, by decide +kernel, by decide⟩, cd_X5_targetOf, (pw_mem 778 (by decide +kernel) rfl), (pw_mem 506 (by decide +kernel) rfl), (pw_mem 61 (by decide +kernel) rfl)⟩
theorem ms_X0_84 : pw_MS RX0 84 mX5_firstOf 1 := ⟨⟨by decide, by decide, by decide +kernel, by decide⟩, cd_X5_firstOf, (pw_mem 779 (by decide +kernel) rfl), (pw_mem 509 (by decide +kernel) rfl), (pw_mem 61 (by decide +kernel) rfl)⟩
theorem ms_X0_87 : pw_MS RX0 87 mX5_secondOf 1 := ⟨⟨by decide, by decide, by decide +kernel, by decide⟩, cd_X5_secondOf, (pw_mem 780 (by decide +kernel) rfl), (pw_mem 512 (by decide +kernel) rfl), (pw_mem 61 (by decide +kernel) rfl)⟩
theorem mv_L_94 : pw_MV RL 94 mX10_sees 10 1 := ⟨⟨by decide, by decide, by decide +kernel, by decide⟩, ⟨TX10, 13, rfl⟩, cd_X10_sees, (pw_mem 781 (by decide +kernel) rfl), (pw_mem 782 (by decide +kernel) rfl), (pw_mem 783 (by decide +kernel) rfl), (pw_mem 58 (by decide +kernel) rfl)⟩
theorem mv_X10_262 : pw_MV RX10 262 mX10_forwardsBy 10 1 := ⟨⟨by decide, by decide, by decide +kernel, by decide⟩, ⟨TX10, 13, rfl⟩, cd_X10_forwardsBy, (pw_mem 785 (by decide +kernel) rfl), (pw_mem 787 (by decide +kernel) rfl), (pw_mem 24 (by decide +kernel) rfl), (pw_mem 58 (by decide +kernel) rfl)⟩
theorem mv_L_98 : pw_MV RL 98 mX10_forget 10 0 := ⟨⟨by decide, by decide, by decide +kernel, by decide⟩, ⟨TX10, 13, rfl⟩, cd_X10_forget, (pw_mem 789 (by decide +kernel) rfl), (pw_mem 790 (by decide +kernel) rfl), (pw_mem 791 (by decide +kernel) rfl), (pw_mem 58 (by decide +kernel) rfl)⟩
theorem mv_L_102 : pw_MV RL 102 mX10_unseen 10 0 := ⟨⟨by decide, by decide, by decide +kernel, by decide⟩, ⟨TX10, 13, rfl⟩, cd_X10_unseen, (pw_mem 793 (by decide +kernel) rfl), (pw_mem 794 (by decide +kernel) rfl), (pw_mem 795 (by decide +kernel) rfl), (pw_mem 58 (by decide +kernel) rfl)⟩
theorem mv_L_106 : pw_MV RL 106 mX10_keep 10 1 := ⟨⟨by decide, by decide, by decide +kernel, by decide⟩, ⟨TX10, 13, rfl⟩, cd_X10_keep, (pw_mem 797 (by decide +kernel) rfl), (pw_mem 798 (by decide +kernel) rfl), (pw_mem 799 (by decide +kernel) rfl), (pw_mem 58 (by decide +kernel) rfl)⟩
theorem mv_X10_265 : pw_MV RX10 265 mX7_copyFrom 7 1 := ⟨⟨by decide, by decide, by decide +kernel, by decide⟩, ⟨TX7, 3, rfl⟩, cd_X7_copyFrom, (pw_mem 801 (by decide +kernel) rfl), (pw_mem 534 (by decide +kernel) rfl), (pw_mem 535 (by decide +kernel) rfl), (pw_mem 60 (by decide +kernel) rfl)⟩
theorem mv_L_110 : pw_MV RL 110 mX10_back 10 1 := ⟨⟨by decide, by decide, by decide +kernel, by decide⟩, ⟨TX10, 13, rfl⟩, cd_X10_back, (pw_mem 802 (by decide +kernel) rfl), (pw_mem 803 (by decide +kernel) rfl), (pw_mem 804 (by decide +kernel) rfl), (pw_mem 58 (by decide +kernel) rfl)⟩
theorem mv_L_114 : pw_MV RL 114 mX10_count 10 1 := ⟨⟨by decide, by decide, by decide +kernel, by decide⟩, ⟨TX10, 13, rfl⟩, cd_X10_count, (pw_mem 806 (by decide +kernel) rfl), (pw_mem 807 (by decide +kernel) rfl), (pw_mem 808 (by decide +kernel) rfl), (pw_mem 58 (by decide +kernel) rfl)⟩
theorem mi_L_12 : pw_MI RL 12 mX11_init 0 := ⟨⟨by decide, by decide, by decide +kernel, by decide⟩, rfl, rfl, cd_X11_init, (pw_mem 812 (by decide +kernel) rfl), (pw_mem 813 (by decide +kernel) rfl), (pw_mem 71 (by decide +kernel) rfl)⟩
theorem ob_X11_1 : Cond.methodLink RX11 1 Lib.objectInit ∈ pw_gw ∧ Cond.instanceMethod Lib.objectInit ∈ pw_gw ∧ Cond.code Lib.objectInit ⟨#[0xb1]⟩ 1 none ∈ pw_gw := ⟨(pw_mem 815 (by decide +kernel) rfl), (pw_mem 80 (by decide +kernel) rfl), (pw_mem 81 (by decide +kernel) rfl)⟩
theorem mv_X11_98 : pw_MV RX11 98 mX11_begins 11 0 := ⟨⟨by decide, by decide, by decide +kernel, by decide⟩, ⟨TX11, 41, rfl⟩, cd_X11_begins, (pw_mem 816 (by decide +kernel) rfl), (pw_mem 818 (by decide +kernel) rfl), (pw_mem 25 (by decide +kernel) rfl), (pw_mem 71 (by decide +kernel) rfl)⟩
theorem mv_X11_159 : pw_MV RX11 159 mX11_laysConstants 11 0 := ⟨⟨by decide, by decide, by decide +kernel, by decide⟩, ⟨TX11, 41, rfl⟩, cd_X11_laysConstants, (pw_mem 820 (by decide +kernel) rfl), (pw_mem 822 (by decide +kernel) rfl), (pw_mem 26 (by decide +kernel) rfl), (pw_mem 71 (by decide +kernel) rfl)⟩
theorem mv_X11_115 : pw_MV RX11 115 mX11_node 11 3 := ⟨⟨by decide, by decide, by decide +kernel, by decide⟩, ⟨TX11, 41, rfl⟩, cd_X11_node, (pw_mem 824 (by decide +kernel) rfl), (pw_mem 826 (by decide +kernel) rfl), (pw_mem 27 (by decide +kernel) rfl), (pw_mem 71 (by decide +kernel) rfl)⟩
theorem mv_X11_101 : pw_MV RX11 101 mX11_becomes 11 0 := ⟨⟨by decide, by decide, by decide +kernel, by decide⟩, ⟨TX11, 41, rfl⟩, cd_X11_becomes, (pw_mem 828 (by decide +kernel) rfl), (pw_mem 830 (by decide +kernel) rfl), (pw_mem 28 (by decide +kernel) rfl), (pw_mem 71 (by decide +kernel) rfl)⟩
theorem mv_L_17 : pw_MV RL 17 mX11_type 11 1 := ⟨⟨by decide, by decide, by decide +kernel, by decide⟩, ⟨TX11, 41, rfl⟩, cd_X11_type, (pw_mem 956 (by decide +kernel) rfl), (pw_mem 957 (by decide +kernel) rfl), (pw_mem 958 (by decide +kernel) rfl), (pw_mem 71 (by decide +kernel) rfl)⟩
theorem ms_X11_122 : pw_MS RX11 122 mX11_in 3 := ⟨⟨by decide, by decide, by decide +kernel, by decide⟩, cd_X11_in, (pw_mem 960 (by decide +kernel) rfl), (pw_mem 961 (by decide +kernel) rfl), (pw_mem 71 (by decide +kernel) rfl)⟩
theorem mv_L_22 : pw_MV RL 22 mX11_clear 11 0 := ⟨⟨by decide, by decide, by decide +kernel, by decide⟩, ⟨TX11, 41, rfl⟩, cd_X11_clear, (pw_mem 963 (by decide +kernel) rfl), (pw_mem 964 (by decide +kernel) rfl), (pw_mem 965 (by decide +kernel) rfl), (pw_mem 71 (by decide +kernel) rfl)⟩
theorem mv_L_26 : pw_MV RL 26 mX11_machine 11 0 := ⟨⟨by decide, by decide, by decide +kernel, by decide⟩, ⟨TX11, 41, rfl⟩, cd_X11_machine, (pw_mem 967 (by decide +kernel) rfl), (pw_mem 968 (by decide +kernel) rfl), (pw_mem 969 (by decide +kernel) rfl), (pw_mem 71 (by decide +kernel) rfl)⟩
theorem mv_X11_138 : pw_MV RX11 138 mX11_takes 11 0 := ⟨⟨by decide, by decide, by decide +kernel, by decide⟩, ⟨TX11, 41, rfl⟩, cd_X11_takes, (pw_mem 971 (by decide +kernel) rfl), (pw_mem 973 (by decide +kernel) rfl), (pw_mem 29 (by decide +kernel) rfl), (pw_mem 71 (by decide +kernel) rfl)⟩
theorem mv_X11_171 : pw_MV RX11 171 mX11_item 11 0 := ⟨⟨by decide, by decide, by decide +kernel, by decide⟩, ⟨TX11, 41, rfl⟩, cd_X11_item, (pw_mem 975 (by decide +kernel) rfl), (pw_mem 977 (by decide +kernel) rfl), (pw_mem 30 (by decide +kernel) rfl), (pw_mem 71 (by decide +kernel) rfl)⟩
theorem mv_X11_151 : pw_MV RX11 151 mX11_readsFact 11 1 := ⟨⟨by decide, by decide, by decide +kernel, by decide⟩, ⟨TX11, 41, rfl⟩, cd_X11_readsFact, (pw_mem 979 (by decide +kernel) rfl), (pw_mem 981 (by decide +kernel) rfl), (pw_mem 31 (by decide +kernel) rfl), (pw_mem 71 (by decide +kernel) rfl)⟩
theorem mv_X11_144 : pw_MV RX11 144 mX11_readsTerm 11 0 := ⟨⟨by decide, by decide, by decide +kernel, by decide⟩, ⟨TX11, 41, rfl⟩, cd_X11_readsTerm, (pw_mem 983 (by decide +kernel) rfl), (pw_mem 985 (by decide +kernel) rfl), (pw_mem 32 (by decide +kernel) rfl), (pw_mem 71 (by decide +kernel) rfl)⟩
theorem mv_X11_155 : pw_MV RX11 155 mX11_readsInstruction 11 1 := ⟨⟨by decide, by decide, by decide +kernel, by decide⟩, ⟨TX11, 41, rfl⟩, cd_X11_readsInstruction, (pw_mem 987 (by decide +kernel) rfl), (pw_mem 989 (by decide +kernel) rfl), (pw_mem 33 (by decide +kernel) rfl), (pw_mem 71 (by decide +kernel) rfl)⟩
theorem mv_L_31 : pw_MV RL 31 mX11_instruction 11 2 := ⟨⟨by decide, by decide, by decide +kernel, by decide⟩, ⟨TX11, 41, rfl⟩, cd_X11_instruction, (pw_mem 991 (by decide +kernel) rfl), (pw_mem 992 (by decide +kernel) rfl), (pw_mem 993 (by decide +kernel) rfl), (pw_mem 71 (by decide +kernel) rfl)⟩
theorem mv_X11_189 : pw_MV RX11 189 mX11_its 11 2 := ⟨⟨by decide, by decide, by decide +kernel, by decide⟩, ⟨TX11, 41, rfl⟩, cd_X11_its, (pw_mem 995 (by decide +kernel) rfl), (pw_mem 997 (by decide +kernel) rfl), (pw_mem 34 (by decide +kernel) rfl), (pw_mem 71 (by decide +kernel) rfl)⟩
theorem mv_L_53 : pw_MV RL 53 mX11_fact 11 1 := ⟨⟨by decide, by decide, by decide +kernel, by decide⟩, ⟨TX11, 41, rfl⟩, cd_X11_fact, (pw_mem 999 (by decide +kernel) rfl), (pw_mem 1000 (by decide +kernel) rfl), (pw_mem 1001 (by decide +kernel) rfl), (pw_mem 71 (by decide +kernel) rfl)⟩
theorem mv_X11_223 : pw_MV RX11 223 mX11_equalOf 11 3 := ⟨⟨by decide, by decide, by decide +kernel, by decide⟩, ⟨TX11, 41, rfl⟩, cd_X11_equalOf, (pw_mem 1003 (by decide +kernel) rfl), (pw_mem 1005 (by decide +kernel) rfl), (pw_mem 35 (by decide +kernel) rfl), (pw_mem 71 (by decide +kernel) rfl)⟩
theorem mv_X11_182 : pw_MV RX11 182 mX11_laysSame 11 3 := ⟨⟨by decide, by decide, by decide +kernel, by decide⟩, ⟨TX11, 41, rfl⟩, cd_X11_laysSame, (pw_mem 1007 (by decide +kernel) rfl), (pw_mem 1009 (by decide +kernel) rfl), (pw_mem 36 (by decide +kernel) rfl), (pw_mem 71 (by decide +kernel) rfl)⟩
theorem ms_X11_108 : pw_MS RX11 108 mX11_has 2 := ⟨⟨by decide, by decide, by decide +kernel, by decide⟩, cd_X11_has, (pw_mem 1011 (by decide +kernel) rfl), (pw_mem 1012 (by decide +kernel) rfl), (pw_mem 71 (by decide +kernel) rfl)⟩
theorem mv_X11_175 : pw_MV RX11 175 mX11_joins 11 2 := ⟨⟨by decide, by decide, by decide +kernel, by decide⟩, ⟨TX11, 41, rfl⟩, cd_X11_joins, (pw_mem 1014 (by decide +kernel) rfl), (pw_mem 1016 (by decide +kernel) rfl), (pw_mem 37 (by decide +kernel) rfl), (pw_mem 71 (by decide +kernel) rfl)⟩
theorem mv_X11_179 : pw_MV RX11 179 mX11_areParted 11 2 := ⟨⟨by decide, by decide, by decide +kernel, by decide⟩, ⟨TX11, 41, rfl⟩, cd_X11_areParted, (pw_mem 1018 (by decide +kernel) rfl), (pw_mem 1020 (by decide +kernel) rfl), (pw_mem 38 (by decide +kernel) rfl), (pw_mem 71 (by decide +kernel) rfl)⟩
theorem mv_X11_186 : pw_MV RX11 186 mX11_isRuledOut 11 1 := ⟨⟨by decide, by decide, by decide +kernel, by decide⟩, ⟨TX11, 41, rfl⟩, cd_X11_isRuledOut, (pw_mem 1022 (by decide +kernel) rfl), (pw_mem 1024 (by decide +kernel) rfl), (pw_mem 39 (by decide +kernel) rfl), (pw_mem 71 (by decide +kernel) rfl)⟩
theorem mv_L_57 : pw_MV RL 57 mX11_ruled 11 0 := ⟨⟨by decide, by decide, by decide +kernel, by decide⟩, ⟨TX11, 41, rfl⟩, cd_X11_ruled, (pw_mem 1026 (by decide +kernel) rfl), (pw_mem 1027 (by decide +kernel) rfl), (pw_mem 1028 (by decide +kernel) rfl), (pw_mem 71 (by decide +kernel) rfl)⟩
theorem mv_L_61 : pw_MV RL 61 mX11_equal 11 3 := ⟨⟨by decide, by decide, by decide +kernel, by decide⟩, ⟨TX11, 41, rfl⟩, cd_X11_equal, (pw_mem 1030 (by decide +kernel) rfl), (pw_mem 1031 (by decide +kernel) rfl), (pw_mem 1032 (by decide +kernel) rfl), (pw_mem 71 (by decide +kernel) rfl)⟩
theorem ms_X11_226 : pw_MS RX11 226 mX11_isRegister 1 := ⟨⟨by decide, by decide, by decide +kernel, by decide⟩, cd_X11_isRegister, (pw_mem 1034 (by decide +kernel) rfl), (pw_mem 1035 (by decide +kernel) rfl), (pw_mem 71 (by decide +kernel) rfl)⟩
theorem mv_X11_229 : pw_MV RX11 229 mX11_runsNow 11 0 := ⟨⟨by decide, by decide, by decide +kernel, by decide⟩, ⟨TX11, 41, rfl⟩, cd_X11_runsNow, (pw_mem 1037 (by decide +kernel) rfl), (pw_mem 1039 (by decide +kernel) rfl), (pw_mem 40 (by decide +kernel) rfl), (pw_mem 71 (by decide +kernel) rfl)⟩
theorem mv_X11_220 : pw_MV RX11 220 mX11_runs 11 2 := ⟨⟨by decide, by decide, by decide +kernel, by decide⟩, ⟨TX11, 41, rfl⟩, cd_X11_runs, (pw_mem 1041 (by decide +kernel) rfl), (pw_mem 1043 (by decide +kernel) rfl), (pw_mem 41 (by decide +kernel) rfl), (pw_mem 71 (by decide +kernel) rfl)⟩
theorem mv_X11_213 : pw_MV RX11 213 mX11_laysSteps 11 2 := ⟨⟨by decide, by decide, by decide +kernel, by decide⟩, ⟨TX11, 41, rfl⟩, cd_X11_laysSteps, (pw_mem 1045 (by decide +kernel) rfl), (pw_mem 1047 (by decide +kernel) rfl), (pw_mem 42 (by decide +kernel) rfl), (pw_mem 71 (by decide +kernel) rfl)⟩
theorem mv_X11_206 : pw_MV RX11 206 mX11_mayGo 11 3 := ⟨⟨by decide, by decide, by decide +kernel, by decide⟩, ⟨TX11, 41, rfl⟩, cd_X11_mayGo, (pw_mem 1049 (by decide +kernel) rfl), (pw_mem 1051 (by decide +kernel) rfl), (pw_mem 43 (by decide +kernel) rfl), (pw_mem 71 (by decide +kernel) rfl)⟩
theorem mv_X11_202 : pw_MV RX11 202 mX11_hasIt 11 4 := ⟨⟨by decide, by decide, by decide +kernel, by decide⟩, ⟨TX11, 41, rfl⟩, cd_X11_hasIt, (pw_mem 1053 (by decide +kernel) rfl), (pw_mem 1055 (by decide +kernel) rfl), (pw_mem 44 (by decide +kernel) rfl), (pw_mem 71 (by decide +kernel) rfl)⟩
theorem mv_X11_196 : pw_MV RX11 196 mX11_latest 11 2 := ⟨⟨by decide, by decide, by decide +kernel, by decide⟩, ⟨TX11, 41, rfl⟩, cd_X11_latest, (pw_mem 1057 (by decide +kernel) rfl), (pw_mem 1059 (by decide +kernel) rfl), (pw_mem 45 (by decide +kernel) rfl), (pw_mem 71 (by decide +kernel) rfl)⟩
theorem mv_X11_193 : pw_MV RX11 193 mX11_makes 11 2 := ⟨⟨by decide, by decide, by decide +kernel, by decide⟩, ⟨TX11, 41, rfl⟩, cd_X11_makes, (pw_mem 1061 (by decide +kernel) rfl), (pw_mem 1063 (by decide +kernel) rfl), (pw_mem 46 (by decide +kernel) rfl), (pw_mem 71 (by decide +kernel) rfl)⟩
theorem mv_X11_199 : pw_MV RX11 199 mX11_isVisible 11 2 := ⟨⟨by decide, by decide, by decide +kernel, by decide⟩, ⟨TX11, 41, rfl⟩, cd_X11_isVisible, (pw_mem 1065 (by decide +kernel) rfl), (pw_mem 1067 (by decide +kernel) rfl), (pw_mem 47 (by decide +kernel) rfl), (pw_mem 71 (by decide +kernel) rfl)⟩
theorem mv_X11_217 : pw_MV RX11 217 mX11_goes 11 2 := ⟨⟨by decide, by decide, by decide +kernel, by decide⟩, ⟨TX11, 41, rfl⟩, cd_X11_goes, (pw_mem 1069 (by decide +kernel) rfl), (pw_mem 1071 (by decide +kernel) rfl), (pw_mem 48 (by decide +kernel) rfl), (pw_mem 71 (by decide +kernel) rfl)⟩
theorem mv_X11_209 : pw_MV RX11 209 mX11_readBy 11 4 := ⟨⟨by decide, by decide, by decide +kernel, by decide⟩, ⟨TX11, 41, rfl⟩, cd_X11_readBy, (pw_mem 1073 (by decide +kernel) rfl), (pw_mem 1075 (by decide +kernel) rfl), (pw_mem 49 (by decide +kernel) rfl), (pw_mem 71 (by decide +kernel) rfl)⟩
theorem mv_L_65 : pw_MV RL 65 mX11_deep 11 2 := ⟨⟨by decide, by decide, by decide +kernel, by decide⟩, ⟨TX11, 41, rfl⟩, cd_X11_deep, (pw_mem 1077 (by decide +kernel) rfl), (pw_mem 1078 (by decide +kernel) rfl), (pw_mem 1079 (by decide +kernel) rfl), (pw_mem 71 (by decide +kernel) rfl)⟩
theorem mv_X11_232 : pw_MV RX11 232 mX11_depth 11 1 := ⟨⟨by decide, by decide, by decide +kernel, by decide⟩, ⟨TX11, 41, rfl⟩, cd_X11_depth, (pw_mem 1081 (by decide +kernel) rfl), (pw_mem 1083 (by decide +kernel) rfl), (pw_mem 50 (by decide +kernel) rfl), (pw_mem 71 (by decide +kernel) rfl)⟩
theorem mv_L_69 : pw_MV RL 69 mX11_term 11 3 := ⟨⟨by decide, by decide, by decide +kernel, by decide⟩, ⟨TX11, 41, rfl⟩, cd_X11_term, (pw_mem 1085 (by decide +kernel) rfl), (pw_mem 1086 (by decide +kernel) rfl), (pw_mem 1087 (by decide +kernel) rfl), (pw_mem 71 (by decide +kernel) rfl)⟩
theorem mv_X11_236 : pw_MV RX11 236 mX11_partOf 11 2 := ⟨⟨by decide, by decide, by decide +kernel, by decide⟩, ⟨TX11, 41, rfl⟩, cd_X11_partOf, (pw_mem 1089 (by decide +kernel) rfl), (pw_mem 1091 (by decide +kernel) rfl), (pw_mem 51 (by decide +kernel) rfl), (pw_mem 71 (by decide +kernel) rfl)⟩
theorem mv_L_73 : pw_MV RL 73 mX11_step 11 1 := ⟨⟨by decide, by decide, by decide +kernel, by decide⟩, ⟨TX11, 41, rfl⟩, cd_X11_step, (pw_mem 1093 (by decide +kernel) rfl), (pw_mem 1094 (by decide +kernel) rfl), (pw_mem 1095 (by decide +kernel) rfl), (pw_mem 71 (by decide +kernel) rfl)⟩
theorem mv_L_77 : pw_MV RL 77 mX11_length 11 0 := ⟨⟨by decide, by decide, by decide +kernel, by decide⟩, ⟨TX11, 41, rfl⟩, cd_X11_length, (pw_mem 1097 (by decide +kernel) rfl), (pw_mem 1098 (by decide +kernel) rfl), (pw_mem 1099 (by decide +kernel) rfl), (pw_mem 71 (by decide +kernel) rfl)⟩
theorem mv_L_81 : pw_MV RL 81 mX11_wrong 11 0 := ⟨⟨by decide, by decide, by decide +kernel, by decide⟩, ⟨TX11, 41, rfl⟩, cd_X11_wrong, (pw_mem 1101 (by decide +kernel) rfl), (pw_mem 1102 (by decide +kernel) rfl), (pw_mem 1103 (by decide +kernel) rfl), (pw_mem 71 (by decide +kernel) rfl)⟩
theorem mv_X11_239 : pw_MV RX11 239 mX11_wrongBy 11 1 := ⟨⟨by decide, by decide, by decide +kernel, by decide⟩, ⟨TX11, 41, rfl⟩, cd_X11_wrongBy, (pw_mem 1105 (by decide +kernel) rfl), (pw_mem 1107 (by decide +kernel) rfl), (pw_mem 52 (by decide +kernel) rfl), (pw_mem 71 (by decide +kernel) rfl)⟩
theorem mv_L_85 : pw_MV RL 85 mX11_needed 11 0 := ⟨⟨by decide, by decide, by decide +kernel, by decide⟩, ⟨TX11, 41, rfl⟩, cd_X11_needed, (pw_mem 1109 (by decide +kernel) rfl), (pw_mem 1110 (by decide +kernel) rfl), (pw_mem 1111 (by decide +kernel) rfl), (pw_mem 71 (by decide +kernel) rfl)⟩
theorem ms_X11_242 : pw_MS RX11 242 mX11_ones 1 := ⟨⟨by decide, by decide, by decide +kernel, by decide⟩, cd_X11_ones, (pw_mem 1113 (by decide +kernel) rfl), (pw_mem 1114 (by decide +kernel) rfl), (pw_mem 71 (by decide +kernel) rfl)⟩
theorem mv_L_89 : pw_MV RL 89 mX11_fewest 11 0 := ⟨⟨by decide, by decide, by decide +kernel, by decide⟩, ⟨TX11, 41, rfl⟩, cd_X11_fewest, (pw_mem 1116 (by decide +kernel) rfl), (pw_mem 1117 (by decide +kernel) rfl), (pw_mem 1118 (by decide +kernel) rfl), (pw_mem 71 (by decide +kernel) rfl)⟩
theorem mv_L_93 : pw_MV RL 93 mX11_broken 11 1 := ⟨⟨by decide, by decide, by decide +kernel, by decide⟩, ⟨TX11, 41, rfl⟩, cd_X11_broken, (pw_mem 1120 (by decide +kernel) rfl), (pw_mem 1121 (by decide +kernel) rfl), (pw_mem 1122 (by decide +kernel) rfl), (pw_mem 71 (by decide +kernel) rfl)⟩
theorem mv_X11_251 : pw_MV RX11 251 mX11_breaker 11 0 := ⟨⟨by decide, by decide, by decide +kernel, by decide⟩, ⟨TX11, 41, rfl⟩, cd_X11_breaker, (pw_mem 1124 (by decide +kernel) rfl), (pw_mem 1126 (by decide +kernel) rfl), (pw_mem 53 (by decide +kernel) rfl), (pw_mem 71 (by decide +kernel) rfl)⟩
theorem mv_X11_248 : pw_MV RX11 248 mX11_breaks 11 2 := ⟨⟨by decide, by decide, by decide +kernel, by decide⟩, ⟨TX11, 41, rfl⟩, cd_X11_breaks, (pw_mem 1128 (by decide +kernel) rfl), (pw_mem 1130 (by decide +kernel) rfl), (pw_mem 54 (by decide +kernel) rfl), (pw_mem 71 (by decide +kernel) rfl)⟩
theorem mv_X11_245 : pw_MV RX11 245 mX11_unlike 11 0 := ⟨⟨by decide, by decide, by decide +kernel, by decide⟩, ⟨TX11, 41, rfl⟩, cd_X11_unlike, (pw_mem 1132 (by decide +kernel) rfl), (pw_mem 1134 (by decide +kernel) rfl), (pw_mem 55 (by decide +kernel) rfl), (pw_mem 71 (by decide +kernel) rfl)⟩
theorem mv_L_36 : pw_MV RL 36 mX11_puts 11 5 := ⟨⟨by decide, by decide, by decide +kernel, by decide⟩, ⟨TX11, 41, rfl⟩, cd_X11_puts, (pw_mem 1136 (by decide +kernel) rfl), (pw_mem 1137 (by decide +kernel) rfl), (pw_mem 1138 (by decide +kernel) rfl), (pw_mem 71 (by decide +kernel) rfl)⟩
theorem mv_X11_254 : pw_MV RX11 254 mX11_notes 11 0 := ⟨⟨by decide, by decide, by decide +kernel, by decide⟩, ⟨TX11, 41, rfl⟩, cd_X11_notes, (pw_mem 1140 (by decide +kernel) rfl), (pw_mem 1142 (by decide +kernel) rfl), (pw_mem 56 (by decide +kernel) rfl), (pw_mem 71 (by decide +kernel) rfl)⟩
theorem mv_L_40 : pw_MV RL 40 mX11_leaves 11 1 := ⟨⟨by decide, by decide, by decide +kernel, by decide⟩, ⟨TX11, 41, rfl⟩, cd_X11_leaves, (pw_mem 1144 (by decide +kernel) rfl), (pw_mem 1145 (by decide +kernel) rfl), (pw_mem 1146 (by decide +kernel) rfl), (pw_mem 71 (by decide +kernel) rfl)⟩
theorem mv_L_45 : pw_MV RL 45 mX11_tells 11 3 := ⟨⟨by decide, by decide, by decide +kernel, by decide⟩, ⟨TX11, 41, rfl⟩, cd_X11_tells, (pw_mem 1148 (by decide +kernel) rfl), (pw_mem 1149 (by decide +kernel) rfl), (pw_mem 1150 (by decide +kernel) rfl), (pw_mem 71 (by decide +kernel) rfl)⟩
theorem mv_L_49 : pw_MV RL 49 mX11_undo 11 0 := ⟨⟨by decide, by decide, by decide +kernel, by decide⟩, ⟨TX11, 41, rfl⟩, cd_X11_undo, (pw_mem 1152 (by decide +kernel) rfl), (pw_mem 1153 (by decide +kernel) rfl), (pw_mem 1154 (by decide +kernel) rfl), (pw_mem 71 (by decide +kernel) rfl)⟩
theorem mv_L_97 : pw_MV RL 97 mX11_sees 11 1 := ⟨⟨by decide, by decide, by decide +kernel, by decide⟩, ⟨TX11, 41, rfl⟩, cd_X11_sees, (pw_mem 1156 (by decide +kernel) rfl), (pw_mem 1157 (by decide +kernel) rfl), (pw_mem 1158 (by decide +kernel) rfl), (pw_mem 71 (by decide +kernel) rfl)⟩
theorem mv_L_101 : pw_MV RL 101 mX11_forget 11 0 := ⟨⟨by decide, by decide, by decide +kernel, by decide⟩, ⟨TX11, 41, rfl⟩, cd_X11_forget, (pw_mem 1160 (by decide +kernel) rfl), (pw_mem 1161 (by decide +kernel) rfl), (pw_mem 1162 (by decide +kernel) rfl), (pw_mem 71 (by decide +kernel) rfl)⟩
theorem mv_L_105 : pw_MV RL 105 mX11_unseen 11 0 := ⟨⟨by decide, by decide, by decide +kernel, by decide⟩, ⟨TX11, 41, rfl⟩, cd_X11_unseen, (pw_mem 1164 (by decide +kernel) rfl), (pw_mem 1165 (by decide +kernel) rfl), (pw_mem 1166 (by decide +kernel) rfl), (pw_mem 71 (by decide +kernel) rfl)⟩
theorem mv_L_109 : pw_MV RL 109 mX11_keep 11 1 := ⟨⟨by decide, by decide, by decide +kernel, by decide⟩, ⟨TX11, 41, rfl⟩, cd_X11_keep, (pw_mem 1168 (by decide +kernel) rfl), (pw_mem 1169 (by decide +kernel) rfl), (pw_mem 1170 (by decide +kernel) rfl), (pw_mem 71 (by decide +kernel) rfl)⟩
theorem mv_L_113 : pw_MV RL 113 mX11_back 11 1 := ⟨⟨by decide, by decide, by decide +kernel, by decide⟩, ⟨TX11, 41, rfl⟩, cd_X11_back, (pw_mem 1172 (by decide +kernel) rfl), (pw_mem 1173 (by decide +kernel) rfl), (pw_mem 1174 (by decide +kernel) rfl), (pw_mem 71 (by decide +kernel) rfl)⟩
theorem mv_L_117 : pw_MV RL 117 mX11_count 11 1 := ⟨⟨by decide, by decide, by decide +kernel, by decide⟩, ⟨TX11, 41, rfl⟩, cd_X11_count, (pw_mem 1176 (by decide +kernel) rfl), (pw_mem 1177 (by decide +kernel) rfl), (pw_mem 1178 (by decide +kernel) rfl), (pw_mem 71 (by decide +kernel) rfl)⟩
/-! words of making -/
theorem nw_L_7 : Cond.classLink RL 7 RX10 ∈ pw_gw ∧ Cond.instantiable RX10 (pw_fn 10) ∈ pw_gw ∧ Cond.initialized RX10 ∈ pw_gw := ⟨(pw_mem 74 (by decide +kernel) rfl), (pw_mem 75 (by decide +kernel) rfl), (pw_mem 58 (by decide +kernel) rfl)⟩
theorem nw_X10_9 : Cond.classLink RX10 9 RX6 ∈ pw_gw ∧ Cond.instantiable RX6 (pw_fn 6) ∈ pw_gw ∧ Cond.initialized RX6 ∈ pw_gw := ⟨(pw_mem 82 (by decide +kernel) rfl), (pw_mem 83 (by decide +kernel) rfl), (pw_mem 59 (by decide +kernel) rfl)⟩
theorem nw_X10_16 : Cond.classLink RX10 16 RX7 ∈ pw_gw ∧ Cond.instantiable RX7 (pw_fn 7) ∈ pw_gw ∧ Cond.initialized RX7 ∈ pw_gw := ⟨(pw_mem 100 (by decide +kernel) rfl), (pw_mem 101 (by decide +kernel) rfl), (pw_mem 60 (by decide +kernel) rfl)⟩
theorem nw_X7_7 : Cond.classLink RX7 7 RX5 ∈ pw_gw ∧ Cond.instantiable RX5 (pw_fn 5) ∈ pw_gw ∧ Cond.initialized RX5 ∈ pw_gw := ⟨(pw_mem 106 (by decide +kernel) rfl), (pw_mem 107 (by decide +kernel) rfl), (pw_mem 61 (by decide +kernel) rfl)⟩
theorem nw_X7_16 : Cond.classLink RX7 16 RX4 ∈ pw_gw ∧ Cond.instantiable RX4 (pw_fn 4) ∈ pw_gw ∧ Cond.initialized RX4 ∈ pw_gw := ⟨(pw_mem 124 (by decide +kernel) rfl), (pw_mem 125 (by decide +kernel) rfl), (pw_mem 62 (by decide +kernel) rfl)⟩
theorem nw_X10_23 : Cond.classLink RX10 23 RX3 ∈ pw_gw ∧ Cond.instantiable RX3 (pw_fn 3) ∈ pw_gw ∧ Cond.initialized RX3 ∈ pw_gw := ⟨(pw_mem 168 (by decide +kernel) rfl), (pw_mem 169 (by decide +kernel) rfl), (pw_mem 63 (by decide +kernel) rfl)⟩
theorem nw_X3_9 : Cond.classLink RX3 9 RX7 ∈ pw_gw ∧ Cond.instantiable RX7 (pw_fn 7) ∈ pw_gw ∧ Cond.initialized RX7 ∈ pw_gw := ⟨(pw_mem 174 (by decide +kernel) rfl), (pw_mem 101 (by decide +kernel) rfl), (pw_mem 60 (by decide +kernel) rfl)⟩
theorem nw_X10_38 : Cond.classLink RX10 38 RX2 ∈ pw_gw ∧ Cond.instantiable RX2 (pw_fn 2) ∈ pw_gw ∧ Cond.initialized RX2 ∈ pw_gw := ⟨(pw_mem 185 (by decide +kernel) rfl), (pw_mem 186 (by decide +kernel) rfl), (pw_mem 64 (by decide +kernel) rfl)⟩
theorem nw_X10_45 : Cond.classLink RX10 45 RX1 ∈ pw_gw ∧ Cond.instantiable RX1 (pw_fn 1) ∈ pw_gw ∧ Cond.initialized RX1 ∈ pw_gw := ⟨(pw_mem 211 (by decide +kernel) rfl), (pw_mem 212 (by decide +kernel) rfl), (pw_mem 65 (by decide +kernel) rfl)⟩
theorem nw_X10_52 : Cond.classLink RX10 52 RX0 ∈ pw_gw ∧ Cond.instantiable RX0 (pw_fn 0) ∈ pw_gw ∧ Cond.initialized RX0 ∈ pw_gw := ⟨(pw_mem 233 (by decide +kernel) rfl), (pw_mem 234 (by decide +kernel) rfl), (pw_mem 66 (by decide +kernel) rfl)⟩
theorem nw_X0_9 : Cond.classLink RX0 9 RX5 ∈ pw_gw ∧ Cond.instantiable RX5 (pw_fn 5) ∈ pw_gw ∧ Cond.initialized RX5 ∈ pw_gw := ⟨(pw_mem 239 (by decide +kernel) rfl), (pw_mem 107 (by decide +kernel) rfl), (pw_mem 61 (by decide +kernel) rfl)⟩
theorem nw_X0_18 : Cond.classLink RX0 18 RX8 ∈ pw_gw ∧ Cond.instantiable RX8 (pw_fn 8) ∈ pw_gw ∧ Cond.initialized RX8 ∈ pw_gw := ⟨(pw_mem 241 (by decide +kernel) rfl), (pw_mem 242 (by decide +kernel) rfl), (pw_mem 67 (by decide +kernel) rfl)⟩
theorem nw_X0_27 : Cond.classLink RX0 27 RX2 ∈ pw_gw ∧ Cond.instantiable RX2 (pw_fn 2) ∈ pw_gw ∧ Cond.initialized RX2 ∈ pw_gw := ⟨(pw_mem 280 (by decide +kernel) rfl), (pw_mem 186 (by decide +kernel) rfl), (pw_mem 64 (by decide +kernel) rfl)⟩
theorem nw_X0_34 : Cond.classLink RX0 34 RX4 ∈ pw_gw ∧ Cond.instantiable RX4 (pw_fn 4) ∈ pw_gw ∧ Cond.initialized RX4 ∈ pw_gw := ⟨(pw_mem 282 (by decide +kernel) rfl), (pw_mem 125 (by decide +kernel) rfl), (pw_mem 62 (by decide +kernel) rfl)⟩
theorem nw_X10_59 : Cond.classLink RX10 59 RX4 ∈ pw_gw ∧ Cond.instantiable RX4 (pw_fn 4) ∈ pw_gw ∧ Cond.initialized RX4 ∈ pw_gw := ⟨(pw_mem 300 (by decide +kernel) rfl), (pw_mem 125 (by decide +kernel) rfl), (pw_mem 62 (by decide +kernel) rfl)⟩
theorem nw_X10_66 : Cond.classLink RX10 66 RX9 ∈ pw_gw ∧ Cond.instantiable RX9 (pw_fn 9) ∈ pw_gw ∧ Cond.initialized RX9 ∈ pw_gw := ⟨(pw_mem 302 (by decide +kernel) rfl), (pw_mem 303 (by decide +kernel) rfl), (pw_mem 69 (by decide +kernel) rfl)⟩
theorem nw_X9_9 : Cond.classLink RX9 9 RX8 ∈ pw_gw ∧ Cond.instantiable RX8 (pw_fn 8) ∈ pw_gw ∧ Cond.initialized RX8 ∈ pw_gw := ⟨(pw_mem 308 (by decide +kernel) rfl), (pw_mem 242 (by decide +kernel) rfl), (pw_mem 67 (by decide +kernel) rfl)⟩
theorem nw_X9_20 : Cond.classLink RX9 20 RX5 ∈ pw_gw ∧ Cond.instantiable RX5 (pw_fn 5) ∈ pw_gw ∧ Cond.initialized RX5 ∈ pw_gw := ⟨(pw_mem 310 (by decide +kernel) rfl), (pw_mem 107 (by decide +kernel) rfl), (pw_mem 61 (by decide +kernel) rfl)⟩
theorem nw_L_10 : Cond.classLink RL 10 RX11 ∈ pw_gw ∧ Cond.instantiable RX11 (pw_fn 11) ∈ pw_gw ∧ Cond.initialized RX11 ∈ pw_gw := ⟨(pw_mem 810 (by decide +kernel) rfl), (pw_mem 811 (by decide +kernel) rfl), (pw_mem 71 (by decide +kernel) rfl)⟩
theorem wd_ai : Cond.arrayClass .int ∈ pw_gw := (pw_mem 99 (by decide +kernel) rfl)
theorem wd_az : Cond.arrayClass .boolean ∈ pw_gw := (pw_mem 210 (by decide +kernel) rfl)
theorem ct_J6_265 : Jvm.Cond.constant RJ6 265 1431655765 ∈ pw_gw := (pw_mem 741 (by decide +kernel) rfl)
theorem ct_J6_266 : Jvm.Cond.constant RJ6 266 858993459 ∈ pw_gw := (pw_mem 742 (by decide +kernel) rfl)
theorem ct_J6_267 : Jvm.Cond.constant RJ6 267 252645135 ∈ pw_gw := (pw_mem 743 (by decide +kernel) rfl)
end
section
section PWEXACT
variable {sc : PSc} {μ : PMI} {d kc ks : Nat} {post : PPost} {pc : Nat} {L : List (Option PV)} {st : List PV} {Γ : List PTy} {I : PIm} {R : PRm}
/-- the answer and the memory behind a call, exactly -/
def px (v : Option PV) (Γ1 : List PTy) (I1 : PIm) (R1 : PRm) : PPost := fun v' Γ' I' R' => v' = v ∧ Γ' = Γ1 ∧ I' = I1 ∧ R' = R1
theorem px_rfl {v : Option PV} {Γ1 : List PTy} {I1 : PIm} {R1 : PRm} : px v Γ1 I1 R1 v Γ1 I1 R1 := ⟨rfl, rfl, rfl, rfl⟩
theorem PW.invVx {idx ci n a kc' ks' : Nat} {μ' : PMI} {as st0 : List PV} {v : Option PV} {Γ1 : List PTy} {I1 : PIm} {R1 : PRm} (hd : decode μ.2.1 pc = .ok (.invokevirtual idx, 3)) (hm : pw_MV μ.1.cls idx μ' ci n) (hc : PC sc μ' d kc' ks' (.inr (some a) :: as) Γ I R (px v Γ1 I1 R1)) (hΓ : Γ[a]? = some (.inl ci)) (hn : as.length = n) (hst : st0 = as.reverse ++ .inr (some a) :: st) (hr : st.length ≤ 8)
    (k : PW sc μ (d + 1) kc ks post (pc + 3) L (v.toList ++ st) Γ1 I1 R1) : PW sc μ (d + 1) (kc + kc') (ks + ks') post pc L st0 Γ I R :=
  PW.invV hd hm hc hΓ hn hst hr (fun v' Γ' I' R' h => by obtain ⟨rfl, rfl, rfl, rfl⟩ := h; exact k)
theorem PW.invSx {idx n kc' ks' : Nat} {μ' : PMI} {as st0 : List PV} {v : Option PV} {Γ1 : List PTy} {I1 : PIm} {R1 : PRm} (hd : decode μ.2.1 pc = .ok (.invokestatic idx, 3)) (hm : pw_MS μ.1.cls idx μ' n) (hc : PC sc μ' d kc' ks' as Γ I R (px v Γ1 I1 R1)) (hn : as.length = n) (hst : st0 = as.reverse ++ st) (hr : st.length ≤ 8)
    (k : PW sc μ (d + 1) kc ks post (pc + 3) L (v.toList ++ st) Γ1 I1 R1) : PW sc μ (d + 1) (kc + kc') (ks + ks') post pc L st0 Γ I R :=
  PW.invS hd hm hc hn hst hr (fun v' Γ' I' R' h => by obtain ⟨rfl, rfl, rfl, rfl⟩ := h; exact k)
theorem PW.invIx {idx n a kc' ks' : Nat} {μ' : PMI} {as st0 : List PV} {v : Option PV} {Γ1 : List PTy} {I1 : PIm} {R1 : PRm} (hd : decode μ.2.1 pc = .ok (.invokespecial idx, 3)) (hm : pw_MI μ.1.cls idx μ' n) (hc : PC sc μ' d kc' ks' (.inr (some a) :: as) Γ I R (px v Γ1 I1 R1)) (hn : as.length = n) (hst : st0 = as.reverse ++ .inr (some a) :: st) (hr : st.length ≤ 8)
    (k : PW sc μ (d + 1) kc ks post (pc + 3) L (v.toList ++ st) Γ1 I1 R1) : PW sc μ (d + 1) (kc + kc') (ks + ks') post pc L st0 Γ I R :=
  PW.invI hd hm hc hn hst hr (fun v' Γ' I' R' h => by obtain ⟨rfl, rfl, rfl, rfl⟩ := h; exact k)
theorem PW.invNx {idx n a kc' ks' : Nat} {μ' : PMI} {as st0 : List PV} {v : Option PV} {Γ1 : List PTy} {I1 : PIm} {R1 : PRm} (hd : decode μ.2.1 pc = .ok (.invokespecial idx, 3)) (hm : pw_MN μ.1.cls idx μ' n) (hc : PC sc μ' d kc' ks' (.inr (some a) :: as) Γ I R (px v Γ1 I1 R1)) (hn : as.length = n) (hst : st0 = as.reverse ++ .inr (some a) :: st) (hr : st.length ≤ 8)
    (k : PW sc μ (d + 1) kc ks post (pc + 3) L (v.toList ++ st) Γ1 I1 R1) : PW sc μ (d + 1) (kc + kc') (ks + ks') post pc L st0 Γ I R :=
  PW.invN hd hm hc hn hst hr (fun v' Γ' I' R' h => by obtain ⟨rfl, rfl, rfl, rfl⟩ := h; exact k)
theorem PW.invV0 {idx ci n a : Nat} {μ' : PMI} {as st0 : List PV} {post' : PPost} (hd : decode μ.2.1 pc = .ok (.invokevirtual idx, 3)) (hm : pw_MV μ.1.cls idx μ' ci n) (hc : PC sc μ' d 0 0 (.inr (some a) :: as) Γ I R post') (hΓ : Γ[a]? = some (.inl ci)) (hn : as.length = n) (hst : st0 = as.reverse ++ .inr (some a) :: st) (hr : st.length ≤ 8) (k : ∀ (v : Option PV) (Γ' : List PTy) (I' : PIm) (R' : PRm), post' v Γ' I' R' → PW sc μ (d + 1) kc ks post (pc + 3) L (v.toList ++ st) Γ' I' R') : PW sc μ (d + 1) kc ks post pc L st0 Γ I R := PW.invV (kc' := 0) (ks' := 0) hd hm hc hΓ hn hst hr k
theorem PW.invV0x {idx ci n a : Nat} {μ' : PMI} {as st0 : List PV} {v : Option PV} {Γ1 : List PTy} {I1 : PIm} {R1 : PRm} (hd : decode μ.2.1 pc = .ok (.invokevirtual idx, 3)) (hm : pw_MV μ.1.cls idx μ' ci n) (hc : PC sc μ' d 0 0 (.inr (some a) :: as) Γ I R (px v Γ1 I1 R1)) (hΓ : Γ[a]? = some (.inl ci)) (hn : as.length = n) (hst : st0 = as.reverse ++ .inr (some a) :: st) (hr : st.length ≤ 8) (k : PW sc μ (d + 1) kc ks post (pc + 3) L (v.toList ++ st) Γ1 I1 R1) : PW sc μ (d + 1) kc ks post pc L st0 Γ I R := PW.invVx (kc' := 0) (ks' := 0) hd hm hc hΓ hn hst hr k
theorem PW.invS0 {idx n : Nat} {μ' : PMI} {as st0 : List PV} {post' : PPost} (hd : decode μ.2.1 pc = .ok (.invokestatic idx, 3)) (hm : pw_MS μ.1.cls idx μ' n) (hc : PC sc μ' d 0 0 as Γ I R post') (hn : as.length = n) (hst : st0 = as.reverse ++ st) (hr : st.length ≤ 8) (k : ∀ (v : Option PV) (Γ' : List PTy) (I' : PIm) (R' : PRm), post' v Γ' I' R' → PW sc μ (d + 1) kc ks post (pc + 3) L (v.toList ++ st) Γ' I' R') : PW sc μ (d + 1) kc ks post pc L st0 Γ I R := PW.invS (kc' := 0) (ks' := 0) hd hm hc hn hst hr k
theorem PW.invS0x {idx n : Nat} {μ' : PMI} {as st0 : List PV} {v : Option PV} {Γ1 : List PTy} {I1 : PIm} {R1 : PRm} (hd : decode μ.2.1 pc = .ok (.invokestatic idx, 3)) (hm : pw_MS μ.1.cls idx μ' n) (hc : PC sc μ' d 0 0 as Γ I R (px v Γ1 I1 R1)) (hn : as.length = n) (hst : st0 = as.reverse ++ st) (hr : st.length ≤ 8) (k : PW sc μ (d + 1) kc ks post (pc + 3) L (v.toList ++ st) Γ1 I1 R1) : PW sc μ (d + 1) kc ks post pc L st0 Γ I R := PW.invSx (kc' := 0) (ks' := 0) hd hm hc hn hst hr k
theorem PW.invI0 {idx n a : Nat} {μ' : PMI} {as st0 : List PV} {post' : PPost} (hd : decode μ.2.1 pc = .ok (.invokespecial idx, 3)) (hm : pw_MI μ.1.cls idx μ' n) (hc : PC sc μ' d 0 0 (.inr (some a) :: as) Γ I R post') (hn : as.length = n) (hst : st0 = as.reverse ++ .inr (some a) :: st) (hr : st.length ≤ 8) (k : ∀ (v : Option PV) (Γ' : List PTy) (I' : PIm) (R' : PRm), post' v Γ' I' R' → PW sc μ (d + 1) kc ks post (pc + 3) L (v.toList ++ st) Γ' I' R') : PW sc μ (d + 1) kc ks post pc L st0 Γ I R := PW.invI (kc' := 0) (ks' := 0) hd hm hc hn hst hr k
theorem PW.invI0x {idx n a : Nat} {μ' : PMI} {as st0 : List PV} {v : Option PV} {Γ1 : List PTy} {I1 : PIm} {R1 : PRm} (hd : decode μ.2.1 pc = .ok (.invokespecial idx, 3)) (hm : pw_MI μ.1.cls idx μ' n) (hc : PC sc μ' d 0 0 (.inr (some a) :: as) Γ I R (px v Γ1 I1 R1)) (hn : as.length = n) (hst : st0 = as.reverse ++ .inr (some a) :: st) (hr : st.length ≤ 8) (k : PW sc μ (d + 1) kc ks post (pc + 3) L (v.toList ++ st) Γ1 I1 R1) : PW sc μ (d + 1) kc ks post pc L st0 Γ I R := PW.invIx (kc' := 0) (ks' := 0) hd hm hc hn hst hr k
theorem PW.invN0 {idx n a : Nat} {μ' : PMI} {as st0 : List PV} {post' : PPost} (hd : decode μ.2.1 pc = .ok (.invokespecial idx, 3)) (hm : pw_MN μ.1.cls idx μ' n) (hc : PC sc μ' d 0 0 (.inr (some a) :: as) Γ I R post') (hn : as.length = n) (hst : st0 = as.reverse ++ .inr (some a) :: st) (hr : st.length ≤ 8) (k : ∀ (v : Option PV) (Γ' : List PTy) (I' : PIm) (R' : PRm), post' v Γ' I' R' → PW sc μ (d + 1) kc ks post (pc + 3) L (v.toList ++ st) Γ' I' R') : PW sc μ (d + 1) kc ks post pc L st0 Γ I R := PW.invN (kc' := 0) (ks' := 0) hd hm hc hn hst hr k
theorem PW.invN0x {idx n a : Nat} {μ' : PMI} {as st0 : List PV} {v : Option PV} {Γ1 : List PTy} {I1 : PIm} {R1 : PRm} (hd : decode μ.2.1 pc = .ok (.invokespecial idx, 3)) (hm : pw_MN μ.1.cls idx μ' n) (hc : PC sc μ' d 0 0 (.inr (some a) :: as) Γ I R (px v Γ1 I1 R1)) (hn : as.length = n) (hst : st0 = as.reverse ++ .inr (some a) :: st) (hr : st.length ≤ 8) (k : PW sc μ (d + 1) kc ks post (pc + 3) L (v.toList ++ st) Γ1 I1 R1) : PW sc μ (d + 1) kc ks post pc L st0 Γ I R := PW.invNx (kc' := 0) (ks' := 0) hd hm hc hn hst hr k
/-- truth as an int -/
def bi (p : Prop) [Decidable p] : Int := if p then 1 else 0
theorem bi_pos {p : Prop} [Decidable p] (h : p) : bi p = 1 := if_pos h
theorem bi_neg {p : Prop} [Decidable p] (h : ¬ p) : bi p = 0 := if_neg h
theorem bi_01 (p : Prop) [Decidable p] : bi p = 0 ∨ bi p = 1 := by unfold bi; split <;> omega
theorem pw_up_self (I : PIm) (a : Nat) (i v : Int) : pw_up I a i v a i = v := by simp [pw_up]
theorem pw_up_other {I : PIm} {a b : Nat} {i j v : Int} (h : ¬ (b = a ∧ j = i)) : pw_up I a i v b j = I b j := if_neg h
theorem pw_upr_self (R : PRm) (a : Nat) (i : Int) (v : Option Nat) : pw_upr R a i v a i = v := by simp [pw_upr]
theorem pw_upr_other {R : PRm} {a b : Nat} {i j : Int} {v : Option Nat} (h : ¬ (b = a ∧ j = i)) : pw_upr R a i v b j = R b j := if_neg h
end PWEXACT
end
section
section TMS
/-! TERMS: a constant, f of a term, g of two: told by three of the library's own kinds -/
abbrev Tm : Type := Jvm.Term
def tc (i : Int) : Tm := .arg i.toNat
def tf (t : Tm) : Tm := .length t
def tg (a b : Tm) : Tm := .elem a b
theorem tf_inj {a b : Tm} (h : tf a = tf b) : a = b := by
  unfold tf at h
  injection h
theorem tg_inj {a b a' b' : Tm} (h : tg a b = tg a' b') : a = a' ∧ b = b' := by
  unfold tg at h
  injection h with h1 h2
  exact ⟨h1, h2⟩
theorem tc_inj {i j : Int} (hi : 0 ≤ i) (hj : 0 ≤ j) (h : tc i = tc j) : i = j := by
  unfold tc at h
  injection h with h1
  omega
theorem tc_tf {i : Int} {a : Tm} : tc i ≠ tf a := by
  unfold tc tf
  exact fun h => by cases h
theorem tc_tg {i : Int} {a b : Tm} : tc i ≠ tg a b := by
  unfold tc tg
  exact fun h => by cases h
theorem tf_tg {a b c : Tm} : tf a ≠ tg b c := by
  unfold tf tg
  exact fun h => by cases h
def dep : Tm → Int
  | .length t => 1 + dep t
  | .elem a b => 1 + max (dep a) (dep b)
  | _ => 0
def ltrs : Tm → List Int
  | .arg i => [97 + (i : Int)]
  | .length t => 102 :: ltrs t
  | .elem a b => 103 :: (ltrs a ++ ltrs b)
  | _ => [0]
def siz (t : Tm) : Int := (ltrs t).length
theorem dep_tc (i : Int) : dep (tc i) = 0 := rfl
theorem dep_tf (t : Tm) : dep (tf t) = 1 + dep t := rfl
theorem dep_tg (a b : Tm) : dep (tg a b) = 1 + max (dep a) (dep b) := rfl
theorem ltrs_tc {i : Int} (h : 0 ≤ i) : ltrs (tc i) = [97 + i] := by
  show [97 + ((i.toNat : Nat) : Int)] = [97 + i]
  rw [Int.toNat_of_nonneg h]
theorem ltrs_tf (t : Tm) : ltrs (tf t) = 102 :: ltrs t := rfl
theorem ltrs_tg (a b : Tm) : ltrs (tg a b) = 103 :: (ltrs a ++ ltrs b) := rfl
theorem siz_tc (i : Int) : siz (tc i) = 1 := rfl
theorem siz_tf (t : Tm) : siz (tf t) = 1 + siz t := by
  unfold siz
  rw [ltrs_tf]
  simp; omega
theorem siz_tg (a b : Tm) : siz (tg a b) = 1 + siz a + siz b := by
  unfold siz
  rw [ltrs_tg]
  simp; omega
theorem dep_nonneg : ∀ t : Tm, 0 ≤ dep t
  | .length t => by
    show 0 ≤ 1 + dep t
    have := dep_nonneg t
    omega
  | .elem a b => by
    show 0 ≤ 1 + max (dep a) (dep b)
    have := dep_nonneg a
    omega
  | .arg _ => Int.le_refl _
  | .int _ => Int.le_refl _
  | .long _ => Int.le_refl _
  | .null => Int.le_refl _
  | .index _ => Int.le_refl _
  | .field _ _ _ _ => Int.le_refl _
  | .static _ _ _ => Int.le_refl _
  | .string _ _ => Int.le_refl _
  | .mirror _ => Int.le_refl _
  | .add _ _ => Int.le_refl _
  | .sub _ _ => Int.le_refl _
  | .mul _ _ => Int.le_refl _
  | .div _ _ => Int.le_refl _
  | .rem _ _ => Int.le_refl _
  | .op2 _ _ _ => Int.le_refl _
  | .op1 _ _ => Int.le_refl _
  | .sum _ => Int.le_refl _
  | .result => Int.le_refl _
  | .thrown => Int.le_refl _
  | .old _ => Int.le_refl _
theorem siz_pos (t : Tm) : 1 ≤ siz t := by
  unfold siz
  have : ltrs t ≠ [] := by
    unfold ltrs
    split <;> simp
  have := List.length_pos_iff.mpr this
  omega
/-- few letters where it is not deep -/
theorem siz_le : ∀ (n : Nat) (t : Tm), dep t ≤ n → siz t < 2 ^ (n + 1)
  | n, .length t, h => by
    have h' : 1 + dep t ≤ n := h
    have h0 := dep_nonneg t
    match n, h' with
    | 0, h' => omega
    | n + 1, h' =>
      have := siz_le n t (by omega)
      have e : siz (Jvm.Term.length t) = 1 + siz t := siz_tf t
      have hp : (0 : Int) < 2 ^ n := Int.pow_pos (by decide)
      have e2 : (2 : Int) ^ (n + 1 + 1) = 2 ^ (n + 1) * 2 := Int.pow_succ 2 (n + 1)
      rw [e, e2]
      omega
  | n, .elem a b, h => by
    have h' : 1 + max (dep a) (dep b) ≤ n := h
    have h0 := dep_nonneg a
    match n, h' with
    | 0, h' => omega
    | n + 1, h' =>
      have h1 := siz_le n a (by omega)
      have h2 := siz_le n b (by omega)
      have e : siz (Jvm.Term.elem a b) = 1 + siz a + siz b := siz_tg a b
      have e2 : (2 : Int) ^ (n + 1 + 1) = 2 ^ (n + 1) * 2 := Int.pow_succ 2 (n + 1)
      rw [e, e2]
      omega
  | n, .arg i, _ => sz1 n
  | n, .int _, _ => sz1 n
  | n, .long _, _ => sz1 n
  | n, .null, _ => sz1 n
  | n, .index _, _ => sz1 n
  | n, .field _ _ _ _, _ => sz1 n
  | n, .static _ _ _, _ => sz1 n
  | n, .string _ _, _ => sz1 n
  | n, .mirror _, _ => sz1 n
  | n, .add _ _, _ => sz1 n
  | n, .sub _ _, _ => sz1 n
  | n, .mul _ _, _ => sz1 n
  | n, .div _ _, _ => sz1 n
  | n, .rem _ _, _ => sz1 n
  | n, .op2 _ _ _, _ => sz1 n
  | n, .op1 _ _, _ => sz1 n
  | n, .sum _, _ => sz1 n
  | n, .result, _ => sz1 n
  | n, .thrown, _ => sz1 n
  | n, .old _, _ => sz1 n
where sz1 (n : Nat) : (1 : Int) < 2 ^ (n + 1) := by
        have e2 : (2 : Int) ^ (n + 1) = 2 ^ n * 2 := Int.pow_succ 2 n
        have : (0 : Int) < 2 ^ n := Int.pow_pos (by decide)
        rw [e2]
        omega
end TMS
end
section
section CODES
/-! codes in numbers -/
theorem code_dec : ∀ c : Fin 256, pw_and (pw_shr (c.val : Int) 6) 3 = (c.val : Int) / 64 ∧ pw_and (pw_shr (c.val : Int) 4) 3 = (c.val : Int) / 16 % 4 ∧ pw_and (pw_shr (c.val : Int) 2) 3 = (c.val : Int) / 4 % 4 ∧ pw_and (c.val : Int) 3 = (c.val : Int) % 4 := by decide +kernel
theorem code_of {c : Int} (h0 : 0 ≤ c) (h1 : c < 256) : pw_and (pw_shr c 6) 3 = c / 64 ∧ pw_and (pw_shr c 4) 3 = c / 16 % 4 ∧ pw_and (pw_shr c 2) 3 = c / 4 % 4 ∧ pw_and c 3 = c % 4 := by
  have := code_dec ⟨c.toNat, by omega⟩
  simpa [Int.toNat_of_nonneg h0] using this
theorem code_enc : ∀ a : Fin 4, ∀ b : Fin 4, ∀ c : Fin 4, ∀ e : Fin 4, pw_or (pw_or (pw_or (pw_shl (a.val : Int) 6) (pw_shl (b.val : Int) 4)) (pw_shl (c.val : Int) 2)) (e.val : Int) = 64 * (a.val : Int) + 16 * (b.val : Int) + 4 * (c.val : Int) + (e.val : Int) := by decide +kernel
theorem code_mk {a b c e : Int} (ha : 0 ≤ a ∧ a < 4) (hb : 0 ≤ b ∧ b < 4) (hc : 0 ≤ c ∧ c < 4) (he : 0 ≤ e ∧ e < 4) : pw_or (pw_or (pw_or (pw_shl a 6) (pw_shl b 4)) (pw_shl c 2)) e = 64 * a + 16 * b + 4 * c + e := by
  have := code_enc ⟨a.toNat, by omega⟩ ⟨b.toNat, by omega⟩ ⟨c.toNat, by omega⟩ ⟨e.toNat, by omega⟩
  simpa [Int.toNat_of_nonneg ha.1, Int.toNat_of_nonneg hb.1, Int.toNat_of_nonneg hc.1, Int.toNat_of_nonneg he.1] using this
end CODES
end
section
section LEAF
variable {sc : PSc} {Γ : List PTy} {I : PIm} {R : PRm}
/-! the JDK's -/
set_option maxRecDepth 100000 in
set_option maxHeartbeats 4000000 in
theorem rg_max (x y : Int) (hx : Rg x) (hy : Rg y) : (if Int32.ofInt x < Int32.ofInt y then Int32.ofInt y else Int32.ofInt x) = Int32.ofInt (max x y) := by
  by_cases h : x < y
  · rw [if_pos ((rg_lt hx hy).mpr h), Int.max_eq_right (by omega)]
  · rw [if_neg (fun q => h ((rg_lt hx hy).mp q)), Int.max_eq_left (by omega)]
set_option maxRecDepth 100000 in
set_option maxHeartbeats 4000000 in
theorem rg_min (x y : Int) (hx : Rg x) (hy : Rg y) : (if Int32.ofInt y < Int32.ofInt x then Int32.ofInt y else Int32.ofInt x) = Int32.ofInt (min x y) := by
  by_cases h : y < x
  · rw [if_pos ((rg_lt hy hx).mpr h), Int.min_eq_right (by omega)]
  · rw [if_neg (fun q => h ((rg_lt hy hx).mp q)), Int.min_eq_left (by omega)]
set_option maxRecDepth 100000 in
set_option maxHeartbeats 4000000 in
theorem PW.mmax {μ : PMI} {d kc ks : Nat} {post : PPost} {pc : Nat} {L : List (Option PV)} {st : List PV} {idx : Nat} {x y : Int} (hd : decode μ.2.1 pc = .ok (.invokestatic idx, 3)) (hw : Cond.methodLink μ.1.cls idx Lib.Math.max.name ∈ pw_gw ∧ Cond.static Lib.Math.max.name ∈ pw_gw ∧ Cond.initialized "java/lang/Math" ∈ pw_gw ∧ Cond.code Lib.Math.max.name Lib.Math.max.code 2 (some .int) ∈ pw_gw) (hx : Rg x) (hy : Rg y) (hr : st.length ≤ 8) (k : PW sc μ d kc ks post (pc + 3) L (.inl (max x y) :: st) Γ I R) : PW sc μ d kc ks post pc L (.inl y :: .inl x :: st) Γ I R := by
  intro w p l e RM s m args below meth c Q C fin H locs cells slots ls hR hS h1 h2 hl
  have hts := C.2.2.2.2.1
  have hf := C.2.2.2.2.2.2.1
  have K := k w p l e RM s m args below meth c Q C fin H locs cells slots ls hR hS h1 h2 hl
  rw [List.map_cons, show pw_tv w (.inl (max x y)) = .int (Int32.ofInt (max x y)) from rfl, ← rg_max x y hx hy] at K
  exact va_mmax C.1 C.2.1 (C.2.2.1.trans hl.2.1.symm) C.2.2.2.1 (hts _ hw.1) (hts _ hw.2.1) (hts _ hw.2.2.1) (hts _ hw.2.2.2) (by omega) (by rw [pw_cats]; omega) (by omega) (by omega) hd K
set_option maxRecDepth 100000 in
set_option maxHeartbeats 4000000 in
theorem PW.mmin {μ : PMI} {d kc ks : Nat} {post : PPost} {pc : Nat} {L : List (Option PV)} {st : List PV} {idx : Nat} {x y : Int} (hd : decode μ.2.1 pc = .ok (.invokestatic idx, 3)) (hw : Cond.methodLink μ.1.cls idx Lib.Math.min.name ∈ pw_gw ∧ Cond.static Lib.Math.min.name ∈ pw_gw ∧ Cond.initialized "java/lang/Math" ∈ pw_gw ∧ Cond.code Lib.Math.min.name Lib.Math.min.code 2 (some .int) ∈ pw_gw) (hx : Rg x) (hy : Rg y) (hr : st.length ≤ 8) (k : PW sc μ d kc ks post (pc + 3) L (.inl (min x y) :: st) Γ I R) : PW sc μ d kc ks post pc L (.inl y :: .inl x :: st) Γ I R := by
  intro w p l e RM s m args below meth c Q C fin H locs cells slots ls hR hS h1 h2 hl
  have hts := C.2.2.2.2.1
  have hf := C.2.2.2.2.2.2.1
  have K := k w p l e RM s m args below meth c Q C fin H locs cells slots ls hR hS h1 h2 hl
  rw [List.map_cons, show pw_tv w (.inl (min x y)) = .int (Int32.ofInt (min x y)) from rfl, ← rg_min x y hx hy] at K
  exact va_mmin C.1 C.2.1 (C.2.2.1.trans hl.2.1.symm) C.2.2.2.1 (hts _ hw.1) (hts _ hw.2.1) (hts _ hw.2.2.1) (hts _ hw.2.2.2) (by omega) (by rw [pw_cats]; omega) (by omega) (by omega) hd K
set_option maxRecDepth 100000 in
set_option maxHeartbeats 4000000 in
theorem mm_X8_9 : Cond.methodLink RX8 9 Lib.Math.max.name ∈ pw_gw ∧ Cond.static Lib.Math.max.name ∈ pw_gw ∧ Cond.initialized "java/lang/Math" ∈ pw_gw ∧ Cond.code Lib.Math.max.name Lib.Math.max.code 2 (some .int) ∈ pw_gw := ⟨(pw_mem 247 (by decide +kernel) rfl), (pw_mem 248 (by decide +kernel) rfl), (pw_mem 68 (by decide +kernel) rfl), (pw_mem 249 (by decide +kernel) rfl)⟩
set_option maxRecDepth 100000 in
set_option maxHeartbeats 4000000 in
theorem mm_X1_34 : Cond.methodLink RX1 34 Lib.Math.min.name ∈ pw_gw ∧ Cond.static Lib.Math.min.name ∈ pw_gw ∧ Cond.initialized "java/lang/Math" ∈ pw_gw ∧ Cond.code Lib.Math.min.name Lib.Math.min.code 2 (some .int) ∈ pw_gw := ⟨(pw_mem 592 (by decide +kernel) rfl), (pw_mem 593 (by decide +kernel) rfl), (pw_mem 68 (by decide +kernel) rfl), (pw_mem 594 (by decide +kernel) rfl)⟩
set_option maxRecDepth 100000 in
set_option maxHeartbeats 4000000 in
theorem bi0 {p : Prop} [Decidable p] (h : bi p = 0) : ¬ p := fun q => by rw [bi_pos q] at h; exact absurd h (by decide)
set_option maxRecDepth 100000 in
set_option maxHeartbeats 4000000 in
theorem bi1 {p : Prop} [Decidable p] (h : ¬ bi p = 0) : p := Classical.byContradiction fun q => h (bi_neg q)
set_option maxRecDepth 100000 in
set_option maxHeartbeats 4000000 in
theorem rg_bi (p : Prop) [Decidable p] : Rg (bi p) := by rcases bi_01 p with h | h <;> rw [h] <;> decide
/-! Pipe: 0 lag, 1 forwards, 2 waits -/
abbrev vis (lag fw x : Int) : Prop := lag < x ∨ (1 ≤ x ∧ x ≤ 3 ∧ pw_and (pw_shr fw (x - 1)) 1 = 1)
def visb (lag fw x : Int) : Int := bi (lag < x ∨ (1 ≤ x ∧ x ≤ 3 ∧ pw_and (pw_shr fw (x - 1)) 1 = 1))
set_option maxRecDepth 100000 in
set_option maxHeartbeats 4000000 in
theorem visb_1 {lag fw x : Int} : visb lag fw x = 1 ↔ vis lag fw x := by
  unfold visb vis bi
  split <;> simp_all
set_option maxRecDepth 100000 in
set_option maxHeartbeats 4000000 in
theorem visb_0 {lag fw x : Int} : visb lag fw x = 0 ↔ ¬ vis lag fw x := by
  unfold visb vis bi
  split <;> simp_all
set_option maxRecDepth 100000 in
set_option maxHeartbeats 4000000 in
theorem visb_01 (lag fw x : Int) : visb lag fw x = 0 ∨ visb lag fw x = 1 := bi_01 _
set_option maxRecDepth 100000 in
set_option maxHeartbeats 4000000 in
theorem c_X4_set (d : Nat) {h : Nat} {a b c : Int} (hh : Γ[h]? = some (.inl 4)) : PC sc mX4_set d 0 0 [.inr (some h), .inl a, .inl b, .inl c] Γ I R (px none Γ (pw_up (pw_up (pw_up I h 0 a) h 1 b) h 2 c) R) := by
  refine PC.ofPW (by decide) (Nat.le_of_ble_eq_true rfl) ?_
  refine PW.aload_n (pc := 0) dX4_set_0 rfl ?_
  refine PW.iload_n (pc := 1) dX4_set_1 rfl ?_
  refine PW.puti (pc := 2) dX4_set_2 fl_X4_18 (by first | assumption | rfl) ?_
  refine PW.aload_n (pc := 5) dX4_set_5 rfl ?_
  refine PW.iload_n (pc := 6) dX4_set_6 rfl ?_
  refine PW.puti (pc := 7) dX4_set_7 fl_X4_22 (by first | assumption | rfl) ?_
  refine PW.aload_n (pc := 10) dX4_set_10 rfl ?_
  refine PW.iload_n (pc := 11) dX4_set_11 rfl ?_
  refine PW.puti (pc := 12) dX4_set_12 fl_X4_25 (by first | assumption | rfl) ?_
  exact PW.vreturn (pc := 15) dX4_set_15 rfl (px_rfl)
set_option maxRecDepth 100000 in
set_option maxHeartbeats 4000000 in
theorem c_X4_setFirst (d : Nat) {h : Nat} (hh : Γ[h]? = some (.inl 4)) : PC sc mX4_setFirst (d + 1) 0 0 [.inr (some h)] Γ I R (px none Γ (pw_up (pw_up (pw_up I h 0 2) h 1 0) h 2 0) R) := by
  refine PC.ofPW (by decide) (Nat.le_of_ble_eq_true rfl) ?_
  refine PW.aload_n (pc := 0) dX4_setFirst_0 rfl ?_
  refine PW.iconst (pc := 1) dX4_setFirst_1 ?_
  refine PW.iconst (pc := 2) dX4_setFirst_2 ?_
  refine PW.iconst (pc := 3) dX4_setFirst_3 ?_
  refine PW.invV0x (pc := 4) dX4_setFirst_4 mv_X4_14 (c_X4_set d hh) (by first | assumption | rfl) rfl rfl (Nat.le_of_ble_eq_true rfl) ?_
  exact PW.vreturn (pc := 7) dX4_setFirst_7 rfl (px_rfl)
set_option maxRecDepth 100000 in
set_option maxHeartbeats 4000000 in
theorem c_X4_copyFrom (d : Nat) {h o : Nat} (hh : Γ[h]? = some (.inl 4)) (ho : Γ[o]? = some (.inl 4)) : PC sc mX4_copyFrom (d + 1) 0 0 [.inr (some h), .inr (some o)] Γ I R (px none Γ (pw_up (pw_up (pw_up I h 0 (I o 0)) h 1 (I o 1)) h 2 (I o 2)) R) := by
  refine PC.ofPW (by decide) (Nat.le_of_ble_eq_true rfl) ?_
  refine PW.aload_n (pc := 0) dX4_copyFrom_0 rfl ?_
  refine PW.aload_n (pc := 1) dX4_copyFrom_1 rfl ?_
  refine PW.geti (pc := 2) dX4_copyFrom_2 fl_X4_18 (by decide) (by first | assumption | rfl) ?_
  refine PW.aload_n (pc := 5) dX4_copyFrom_5 rfl ?_
  refine PW.geti (pc := 6) dX4_copyFrom_6 fl_X4_22 (by decide) (by first | assumption | rfl) ?_
  refine PW.aload_n (pc := 9) dX4_copyFrom_9 rfl ?_
  refine PW.geti (pc := 10) dX4_copyFrom_10 fl_X4_25 (by decide) (by first | assumption | rfl) ?_
  refine PW.invV0x (pc := 13) dX4_copyFrom_13 mv_X4_14 (c_X4_set d hh) (by first | assumption | rfl) rfl rfl (Nat.le_of_ble_eq_true rfl) ?_
  exact PW.vreturn (pc := 16) dX4_copyFrom_16 rfl (px_rfl)
set_option maxRecDepth 100000 in
set_option maxHeartbeats 4000000 in
theorem c_X4_is (d : Nat) {h : Nat} {a b c : Int} (hh : Γ[h]? = some (.inl 4)) (ha : Rg a) (hb : Rg b) (hc : Rg c) (h0 : Rg (I h 0)) (h1 : Rg (I h 1)) (h2 : Rg (I h 2)) : PC sc mX4_is d 0 0 [.inr (some h), .inl a, .inl b, .inl c] Γ I R (px (some (.inl (bi (I h 0 = a ∧ I h 1 = b ∧ I h 2 = c)))) Γ I R) := by
  refine PC.ofPW (by decide) (Nat.le_of_ble_eq_true rfl) ?_
  refine PW.aload_n (pc := 0) dX4_is_0 rfl ?_
  refine PW.geti (pc := 1) dX4_is_1 fl_X4_18 (by decide) (by first | assumption | rfl) ?_
  refine PW.iload_n (pc := 4) dX4_is_4 rfl ?_
  refine PW.icmp_ne (pc := 5) (tgt := 28) dX4_is_5 (by decide) (by first | omega | exact rg_of _) (by first | omega | exact rg_of _) (fun c_5 => ?_) (fun c_5 => ?_)
  · refine PW.iconst (pc := 28) dX4_is_28 ?_
    exact PW.zreturn (pc := 29) dX4_is_29 rfl (by first | exact Or.inl rfl | exact Or.inr rfl | omega) (by first | (rw [bi_pos (by omega)]; exact px_rfl) | (rw [bi_neg (by omega)]; exact px_rfl))
  · refine PW.aload_n (pc := 8) dX4_is_8 rfl ?_
    refine PW.geti (pc := 9) dX4_is_9 fl_X4_22 (by decide) (by first | assumption | rfl) ?_
    refine PW.iload_n (pc := 12) dX4_is_12 rfl ?_
    refine PW.icmp_ne (pc := 13) (tgt := 28) dX4_is_13 (by decide) (by first | omega | exact rg_of _) (by first | omega | exact rg_of _) (fun c_13 => ?_) (fun c_13 => ?_)
    · refine PW.iconst (pc := 28) dX4_is_28 ?_
      exact PW.zreturn (pc := 29) dX4_is_29 rfl (by first | exact Or.inl rfl | exact Or.inr rfl | omega) (by first | (rw [bi_pos (by omega)]; exact px_rfl) | (rw [bi_neg (by omega)]; exact px_rfl))
    · refine PW.aload_n (pc := 16) dX4_is_16 rfl ?_
      refine PW.geti (pc := 17) dX4_is_17 fl_X4_25 (by decide) (by first | assumption | rfl) ?_
      refine PW.iload_n (pc := 20) dX4_is_20 rfl ?_
      refine PW.icmp_ne (pc := 21) (tgt := 28) dX4_is_21 (by decide) (by first | omega | exact rg_of _) (by first | omega | exact rg_of _) (fun c_21 => ?_) (fun c_21 => ?_)
      · refine PW.iconst (pc := 28) dX4_is_28 ?_
        exact PW.zreturn (pc := 29) dX4_is_29 rfl (by first | exact Or.inl rfl | exact Or.inr rfl | omega) (by first | (rw [bi_pos (by omega)]; exact px_rfl) | (rw [bi_neg (by omega)]; exact px_rfl))
      · refine PW.iconst (pc := 24) dX4_is_24 ?_
        refine PW.goto (pc := 25) (tgt := 29) dX4_is_25 (by decide) ?_
        exact PW.zreturn (pc := 29) dX4_is_29 rfl (by first | exact Or.inl rfl | exact Or.inr rfl | omega) (by first | (rw [bi_pos (by omega)]; exact px_rfl) | (rw [bi_neg (by omega)]; exact px_rfl))
set_option maxRecDepth 100000 in
set_option maxHeartbeats 4000000 in
theorem c_X4_shows (d : Nat) {h : Nat} {x : Int} (hh : Γ[h]? = some (.inl 4)) (hx : Rg x) (h0 : Rg (I h 0)) : PC sc mX4_shows d 0 0 [.inr (some h), .inl x] Γ I R (px (some (.inl (visb (I h 0) (I h 1) x))) Γ I R) := by
  refine PC.ofPW (by decide) (Nat.le_of_ble_eq_true rfl) ?_
  unfold visb
  refine PW.iload_n (pc := 0) dX4_shows_0 rfl ?_
  refine PW.aload_n (pc := 1) dX4_shows_1 rfl ?_
  refine PW.geti (pc := 2) dX4_shows_2 fl_X4_18 (by decide) (by first | assumption | rfl) ?_
  refine PW.icmp_gt (pc := 5) (tgt := 32) dX4_shows_5 (by decide) (by first | omega | exact rg_of _) (by first | omega | exact rg_of _) (fun c_5 => ?_) (fun c_5 => ?_)
  · refine PW.iconst (pc := 32) dX4_shows_32 ?_
    refine PW.goto (pc := 33) (tgt := 37) dX4_shows_33 (by decide) ?_
    exact PW.zreturn (pc := 37) dX4_shows_37 rfl (by first | exact Or.inl rfl | exact Or.inr rfl | omega) (by first | (rw [bi_pos (by omega)]; exact px_rfl) | (rw [bi_neg (by omega)]; exact px_rfl))
  · refine PW.iload_n (pc := 8) dX4_shows_8 rfl ?_
    refine PW.iconst (pc := 9) dX4_shows_9 ?_
    refine PW.icmp_lt (pc := 10) (tgt := 36) dX4_shows_10 (by decide) (by first | omega | exact rg_of _) (by first | omega | exact rg_of _) (fun c_10 => ?_) (fun c_10 => ?_)
    · refine PW.iconst (pc := 36) dX4_shows_36 ?_
      exact PW.zreturn (pc := 37) dX4_shows_37 rfl (by first | exact Or.inl rfl | exact Or.inr rfl | omega) (by first | (rw [bi_pos (by omega)]; exact px_rfl) | (rw [bi_neg (by omega)]; exact px_rfl))
    · refine PW.iload_n (pc := 13) dX4_shows_13 rfl ?_
      refine PW.iconst (pc := 14) dX4_shows_14 ?_
      refine PW.icmp_gt (pc := 15) (tgt := 36) dX4_shows_15 (by decide) (by first | omega | exact rg_of _) (by first | omega | exact rg_of _) (fun c_15 => ?_) (fun c_15 => ?_)
      · refine PW.iconst (pc := 36) dX4_shows_36 ?_
        exact PW.zreturn (pc := 37) dX4_shows_37 rfl (by first | exact Or.inl rfl | exact Or.inr rfl | omega) (by first | (rw [bi_pos (by omega)]; exact px_rfl) | (rw [bi_neg (by omega)]; exact px_rfl))
      · refine PW.aload_n (pc := 18) dX4_shows_18 rfl ?_
        refine PW.geti (pc := 19) dX4_shows_19 fl_X4_22 (by decide) (by first | assumption | rfl) ?_
        refine PW.iload_n (pc := 22) dX4_shows_22 rfl ?_
        refine PW.iconst (pc := 23) dX4_shows_23 ?_
        refine PW.isub (pc := 24) dX4_shows_24 ?_
        refine PW.ishr (pc := 25) dX4_shows_25 ?_
        refine PW.iconst (pc := 26) dX4_shows_26 ?_
        refine PW.iand (pc := 27) dX4_shows_27 ?_
        refine PW.iconst (pc := 28) dX4_shows_28 ?_
        refine PW.icmp_ne (pc := 29) (tgt := 36) dX4_shows_29 (by decide) (by first | omega | exact rg_of _) (by first | omega | exact rg_of _) (fun c_29 => ?_) (fun c_29 => ?_)
        · refine PW.iconst (pc := 36) dX4_shows_36 ?_
          exact PW.zreturn (pc := 37) dX4_shows_37 rfl (by first | exact Or.inl rfl | exact Or.inr rfl | omega) (by first | (rw [bi_pos (by omega)]; exact px_rfl) | (rw [bi_neg (by omega)]; exact px_rfl))
        · refine PW.iconst (pc := 32) dX4_shows_32 ?_
          refine PW.goto (pc := 33) (tgt := 37) dX4_shows_33 (by decide) ?_
          exact PW.zreturn (pc := 37) dX4_shows_37 rfl (by first | exact Or.inl rfl | exact Or.inr rfl | omega) (by first | (rw [bi_pos (by omega)]; exact px_rfl) | (rw [bi_neg (by omega)]; exact px_rfl))
def hides (lag fw w : Int) : Prop := w = 1 ∨ pw_and fw (pw_shl 1 lag - 1) = pw_shl 1 lag - 1
set_option maxRecDepth 100000 in
set_option maxHeartbeats 4000000 in
theorem c_X4_hidesNothing (d : Nat) {h : Nat} (hh : Γ[h]? = some (.inl 4)) (h2 : Rg (I h 2)) (hl : Rg (pw_shl 1 (I h 0) - 1)) : PC sc mX4_hidesNothing d 0 0 [.inr (some h)] Γ I R (px (some (.inl (bi (I h 2 = 1 ∨ pw_and (I h 1) (pw_shl 1 (I h 0) - 1) = pw_shl 1 (I h 0) - 1)))) Γ I R) := by
  refine PC.ofPW (by decide) (Nat.le_of_ble_eq_true rfl) ?_
  refine PW.iconst (pc := 0) dX4_hidesNothing_0 ?_
  refine PW.aload_n (pc := 1) dX4_hidesNothing_1 rfl ?_
  refine PW.geti (pc := 2) dX4_hidesNothing_2 fl_X4_18 (by decide) (by first | assumption | rfl) ?_
  refine PW.ishl (pc := 5) dX4_hidesNothing_5 ?_
  refine PW.iconst (pc := 6) dX4_hidesNothing_6 ?_
  refine PW.isub (pc := 7) dX4_hidesNothing_7 ?_
  refine PW.istore_n (pc := 8) dX4_hidesNothing_8 (by decide) ?_
  refine PW.aload_n (pc := 9) dX4_hidesNothing_9 rfl ?_
  refine PW.geti (pc := 10) dX4_hidesNothing_10 fl_X4_25 (by decide) (by first | assumption | rfl) ?_
  refine PW.iconst (pc := 13) dX4_hidesNothing_13 ?_
  refine PW.icmp_eq (pc := 14) (tgt := 27) dX4_hidesNothing_14 (by decide) (by first | omega | exact rg_of _) (by first | omega | exact rg_of _) (fun c_14 => ?_) (fun c_14 => ?_)
  · refine PW.iconst (pc := 27) dX4_hidesNothing_27 ?_
    refine PW.goto (pc := 28) (tgt := 32) dX4_hidesNothing_28 (by decide) ?_
    exact PW.zreturn (pc := 32) dX4_hidesNothing_32 rfl (by first | exact Or.inl rfl | exact Or.inr rfl | omega) (by first | (rw [bi_pos (by omega)]; exact px_rfl) | (rw [bi_neg (by omega)]; exact px_rfl))
  · refine PW.aload_n (pc := 17) dX4_hidesNothing_17 rfl ?_
    refine PW.geti (pc := 18) dX4_hidesNothing_18 fl_X4_22 (by decide) (by first | assumption | rfl) ?_
    refine PW.iload_n (pc := 21) dX4_hidesNothing_21 rfl ?_
    refine PW.iand (pc := 22) dX4_hidesNothing_22 ?_
    refine PW.iload_n (pc := 23) dX4_hidesNothing_23 rfl ?_
    refine PW.icmp_ne (pc := 24) (tgt := 31) dX4_hidesNothing_24 (by decide) (by first | omega | exact rg_of _) (by first | omega | exact rg_of _) (fun c_24 => ?_) (fun c_24 => ?_)
    · refine PW.iconst (pc := 31) dX4_hidesNothing_31 ?_
      exact PW.zreturn (pc := 32) dX4_hidesNothing_32 rfl (by first | exact Or.inl rfl | exact Or.inr rfl | omega) (by first | (rw [bi_pos (by omega)]; exact px_rfl) | (rw [bi_neg (by omega)]; exact px_rfl))
    · refine PW.iconst (pc := 27) dX4_hidesNothing_27 ?_
      refine PW.goto (pc := 28) (tgt := 32) dX4_hidesNothing_28 (by decide) ?_
      exact PW.zreturn (pc := 32) dX4_hidesNothing_32 rfl (by first | exact Or.inl rfl | exact Or.inr rfl | omega) (by first | (rw [bi_pos (by omega)]; exact px_rfl) | (rw [bi_neg (by omega)]; exact px_rfl))
/-! Program: 0 codes, 1 size -/
def ProgAt (Γ : List PTy) (R : PRm) (h : Nat) : Prop := Γ[h]? = some (.inl 5) ∧ R h 0 = some (h + 1) ∧ Γ[h + 1]? = some (.inr (0, 6))
set_option maxRecDepth 100000 in
set_option maxHeartbeats 4000000 in
theorem c_X5_forgetAll (d : Nat) {h : Nat} (hh : Γ[h]? = some (.inl 5)) : PC sc mX5_forgetAll d 0 0 [.inr (some h)] Γ I R (px none Γ (pw_up I h 1 0) R) := by
  refine PC.ofPW (by decide) (Nat.le_of_ble_eq_true rfl) ?_
  refine PW.aload_n (pc := 0) dX5_forgetAll_0 rfl ?_
  refine PW.iconst (pc := 1) dX5_forgetAll_1 ?_
  refine PW.puti (pc := 2) dX5_forgetAll_2 fl_X5_15 (by first | assumption | rfl) ?_
  exact PW.vreturn (pc := 5) dX5_forgetAll_5 rfl (px_rfl)
set_option maxRecDepth 100000 in
set_option maxHeartbeats 4000000 in
theorem c_X5_copyFrom (d : Nat) {h o : Nat} (hh : ProgAt Γ R h) (ho : ProgAt Γ R o) : PC sc mX5_copyFrom d 0 0 [.inr (some h), .inr (some o)] Γ I R (px none Γ (pw_up (pw_cp I (o + 1) (h + 1) 6) h 1 (pw_cp I (o + 1) (h + 1) 6 o 1)) R) := by
  obtain ⟨h1, h2, h3⟩ := hh
  obtain ⟨o1, o2, o3⟩ := ho
  refine PC.ofPW (by decide) (Nat.le_of_ble_eq_true rfl) ?_
  refine PW.aload_n (pc := 0) dX5_copyFrom_0 rfl ?_
  refine PW.getr (pc := 1) dX5_copyFrom_1 fl_X5_9 (by first | assumption | rfl) (by first | assumption | rfl) ?_
  refine PW.iconst (pc := 4) dX5_copyFrom_4 ?_
  refine PW.aload_n (pc := 5) dX5_copyFrom_5 rfl ?_
  refine PW.getr (pc := 6) dX5_copyFrom_6 fl_X5_9 (by first | assumption | rfl) (by first | assumption | rfl) ?_
  refine PW.iconst (pc := 9) dX5_copyFrom_9 ?_
  refine PW.bipush (pc := 10) dX5_copyFrom_10 (by decide) ?_
  refine PW.copy (pc := 12) dX5_copyFrom_12 ac_X5_19 (by first | assumption | rfl) (by first | assumption | rfl) (by decide) (by decide) (by decide) (by decide) rfl ?_
  refine PW.aload_n (pc := 15) dX5_copyFrom_15 rfl ?_
  refine PW.aload_n (pc := 16) dX5_copyFrom_16 rfl ?_
  refine PW.geti (pc := 17) dX5_copyFrom_17 fl_X5_15 (by decide) (by first | assumption | rfl) ?_
  refine PW.puti (pc := 20) dX5_copyFrom_20 fl_X5_15 (by first | assumption | rfl) ?_
  exact PW.vreturn (pc := 23) dX5_copyFrom_23 rfl (px_rfl)
set_option maxRecDepth 100000 in
set_option maxHeartbeats 4000000 in
theorem c_X5_codeOf (d : Nat) {a b c e : Int} : PC sc mX5_codeOf d 0 0 [.inl a, .inl b, .inl c, .inl e] Γ I R (px (some (.inl (pw_or (pw_or (pw_or (pw_shl a 6) (pw_shl b 4)) (pw_shl c 2)) e))) Γ I R) := by
  refine PC.ofPW (by decide) (Nat.le_of_ble_eq_true rfl) ?_
  refine PW.iload_n (pc := 0) dX5_codeOf_0 rfl ?_
  refine PW.bipush (pc := 1) dX5_codeOf_1 (by decide) ?_
  refine PW.ishl (pc := 3) dX5_codeOf_3 ?_
  refine PW.iload_n (pc := 4) dX5_codeOf_4 rfl ?_
  refine PW.iconst (pc := 5) dX5_codeOf_5 ?_
  refine PW.ishl (pc := 6) dX5_codeOf_6 ?_
  refine PW.ior (pc := 7) dX5_codeOf_7 ?_
  refine PW.iload_n (pc := 8) dX5_codeOf_8 rfl ?_
  refine PW.iconst (pc := 9) dX5_codeOf_9 ?_
  refine PW.ishl (pc := 10) dX5_codeOf_10 ?_
  refine PW.ior (pc := 11) dX5_codeOf_11 ?_
  refine PW.iload_n (pc := 12) dX5_codeOf_12 rfl ?_
  refine PW.ior (pc := 13) dX5_codeOf_13 ?_
  exact PW.ireturn (pc := 14) dX5_codeOf_14 rfl (px_rfl)
set_option maxRecDepth 100000 in
set_option maxHeartbeats 4000000 in
theorem c_X5_has (d : Nat) {h : Nat} {k : Int} (hh : Γ[h]? = some (.inl 5)) (hk : Rg k) (hs : Rg (I h 1)) : PC sc mX5_has d 0 0 [.inr (some h), .inl k] Γ I R (px (some (.inl (bi (0 ≤ k ∧ k < I h 1 ∧ k < 6)))) Γ I R) := by
  refine PC.ofPW (by decide) (Nat.le_of_ble_eq_true rfl) ?_
  refine PW.iload_n (pc := 0) dX5_has_0 rfl ?_
  refine PW.if_lt (pc := 1) (tgt := 22) dX5_has_1 (by decide) (by first | omega | exact rg_of _) (fun c_1 => ?_) (fun c_1 => ?_)
  · refine PW.iconst (pc := 22) dX5_has_22 ?_
    exact PW.zreturn (pc := 23) dX5_has_23 rfl (by first | exact Or.inl rfl | exact Or.inr rfl | omega) (by first | (rw [bi_pos (by omega)]; exact px_rfl) | (rw [bi_neg (by omega)]; exact px_rfl))
  · refine PW.iload_n (pc := 4) dX5_has_4 rfl ?_
    refine PW.aload_n (pc := 5) dX5_has_5 rfl ?_
    refine PW.geti (pc := 6) dX5_has_6 fl_X5_15 (by decide) (by first | assumption | rfl) ?_
    refine PW.icmp_ge (pc := 9) (tgt := 22) dX5_has_9 (by decide) (by first | omega | exact rg_of _) (by first | omega | exact rg_of _) (fun c_9 => ?_) (fun c_9 => ?_)
    · refine PW.iconst (pc := 22) dX5_has_22 ?_
      exact PW.zreturn (pc := 23) dX5_has_23 rfl (by first | exact Or.inl rfl | exact Or.inr rfl | omega) (by first | (rw [bi_pos (by omega)]; exact px_rfl) | (rw [bi_neg (by omega)]; exact px_rfl))
    · refine PW.iload_n (pc := 12) dX5_has_12 rfl ?_
      refine PW.bipush (pc := 13) dX5_has_13 (by decide) ?_
      refine PW.icmp_ge (pc := 15) (tgt := 22) dX5_has_15 (by decide) (by first | omega | exact rg_of _) (by first | omega | exact rg_of _) (fun c_15 => ?_) (fun c_15 => ?_)
      · refine PW.iconst (pc := 22) dX5_has_22 ?_
        exact PW.zreturn (pc := 23) dX5_has_23 rfl (by first | exact Or.inl rfl | exact Or.inr rfl | omega) (by first | (rw [bi_pos (by omega)]; exact px_rfl) | (rw [bi_neg (by omega)]; exact px_rfl))
      · refine PW.iconst (pc := 18) dX5_has_18 ?_
        refine PW.goto (pc := 19) (tgt := 23) dX5_has_19 (by decide) ?_
        exact PW.zreturn (pc := 23) dX5_has_23 rfl (by first | exact Or.inl rfl | exact Or.inr rfl | omega) (by first | (rw [bi_pos (by omega)]; exact px_rfl) | (rw [bi_neg (by omega)]; exact px_rfl))
set_option maxRecDepth 100000 in
set_option maxHeartbeats 4000000 in
theorem c_X5_codeAt (d : Nat) {h : Nat} {k : Int} (hh : ProgAt Γ R h) (hk : Rg k) (hs : Rg (I h 1)) : PC sc mX5_codeAt (d + 1) 0 0 [.inr (some h), .inl k] Γ I R (px (some (.inl (if 0 ≤ k ∧ k < I h 1 ∧ k < 6 then I (h + 1) k else -1))) Γ I R) := by
  obtain ⟨h1, h2, h3⟩ := hh
  refine PC.ofPW (by decide) (Nat.le_of_ble_eq_true rfl) ?_
  refine PW.aload_n (pc := 0) dX5_codeAt_0 rfl ?_
  refine PW.iload_n (pc := 1) dX5_codeAt_1 rfl ?_
  refine PW.invV0x (pc := 2) dX5_codeAt_2 mv_X5_25 (c_X5_has d h1 hk hs) (by first | assumption | rfl) rfl rfl (Nat.le_of_ble_eq_true rfl) ?_
  refine PW.if_eq (pc := 5) (tgt := 17) dX5_codeAt_5 (by decide) (rg_bi _) (fun c_5 => ?_) (fun c_5 => ?_)
  · have c_5 := bi0 c_5
    refine PW.iconst (pc := 17) dX5_codeAt_17 ?_
    exact PW.ireturn (pc := 18) dX5_codeAt_18 rfl (by first | (rw [if_pos c_5]; exact px_rfl) | (rw [if_neg c_5]; exact px_rfl))
  · have c_5 := bi1 c_5
    refine PW.aload_n (pc := 8) dX5_codeAt_8 rfl ?_
    refine PW.getr (pc := 9) dX5_codeAt_9 fl_X5_9 (by first | assumption | rfl) (by first | assumption | rfl) ?_
    refine PW.iload_n (pc := 12) dX5_codeAt_12 rfl ?_
    refine PW.iald (pc := 13) dX5_codeAt_13 (by first | assumption | rfl) (by omega) (by omega) (by omega) ?_
    refine PW.goto (pc := 14) (tgt := 18) dX5_codeAt_14 (by decide) ?_
    exact PW.ireturn (pc := 18) dX5_codeAt_18 rfl (by first | (rw [if_pos c_5]; exact px_rfl) | (rw [if_neg c_5]; exact px_rfl))
set_option maxRecDepth 100000 in
set_option maxHeartbeats 4000000 in
theorem c_X5_set (d : Nat) {h : Nat} {k c : Int} (hh : ProgAt Γ R h) (hk : 0 ≤ k) (hk6 : k < 6) (hks : k ≤ I h 1) (hs : Rg (I h 1)) : PC sc mX5_set d 0 0 [.inr (some h), .inl k, .inl c] Γ I R (px none Γ (if k = I h 1 then pw_up (pw_up I (h + 1) k c) h 1 (k + 1) else pw_up I (h + 1) k c) R) := by
  obtain ⟨h1, h2, h3⟩ := hh
  refine PC.ofPW (by decide) (Nat.le_of_ble_eq_true rfl) ?_
  have e1 : pw_up I (h + 1) k c h 1 = I h 1 := pw_up_other (by omega)
  refine PW.iload_n (pc := 0) dX5_set_0 rfl ?_
  refine PW.if_lt (pc := 1) (tgt := 18) dX5_set_1 (by decide) (by first | omega | exact rg_of _) (fun c_1 => ?_) (fun c_1 => ?_)
  · omega
  · refine PW.iload_n (pc := 4) dX5_set_4 rfl ?_
    refine PW.aload_n (pc := 5) dX5_set_5 rfl ?_
    refine PW.geti (pc := 6) dX5_set_6 fl_X5_15 (by decide) (by first | assumption | rfl) ?_
    refine PW.icmp_gt (pc := 9) (tgt := 18) dX5_set_9 (by decide) (by first | omega | exact rg_of _) (by first | omega | exact rg_of _) (fun c_9 => ?_) (fun c_9 => ?_)
    · omega
    · refine PW.iload_n (pc := 12) dX5_set_12 rfl ?_
      refine PW.bipush (pc := 13) dX5_set_13 (by decide) ?_
      refine PW.icmp_lt (pc := 15) (tgt := 19) dX5_set_15 (by decide) (by first | omega | exact rg_of _) (by first | omega | exact rg_of _) (fun c_15 => ?_) (fun c_15 => ?_)
      · refine PW.aload_n (pc := 19) dX5_set_19 rfl ?_
        refine PW.getr (pc := 20) dX5_set_20 fl_X5_9 (by first | assumption | rfl) (by first | assumption | rfl) ?_
        refine PW.iload_n (pc := 23) dX5_set_23 rfl ?_
        refine PW.iload_n (pc := 24) dX5_set_24 rfl ?_
        refine PW.iast (pc := 25) dX5_set_25 (by first | assumption | rfl) (by omega) (by omega) (by omega) ?_
        refine PW.iload_n (pc := 26) dX5_set_26 rfl ?_
        refine PW.aload_n (pc := 27) dX5_set_27 rfl ?_
        refine PW.geti (pc := 28) dX5_set_28 fl_X5_15 (by decide) (by first | assumption | rfl) ?_
        rw [e1]
        refine PW.icmp_ne (pc := 31) (tgt := 41) dX5_set_31 (by decide) (by first | omega | exact rg_of _) (by first | omega | exact rg_of _) (fun c_31 => ?_) (fun c_31 => ?_)
        · exact PW.vreturn (pc := 41) dX5_set_41 rfl (by first | (rw [if_pos (by omega)]; exact px_rfl) | (rw [if_neg (by omega)]; exact px_rfl))
        · refine PW.aload_n (pc := 34) dX5_set_34 rfl ?_
          refine PW.iload_n (pc := 35) dX5_set_35 rfl ?_
          refine PW.iconst (pc := 36) dX5_set_36 ?_
          refine PW.iadd (pc := 37) dX5_set_37 ?_
          refine PW.puti (pc := 38) dX5_set_38 fl_X5_15 (by first | assumption | rfl) ?_
          exact PW.vreturn (pc := 41) dX5_set_41 rfl (by first | (rw [if_pos (by omega)]; exact px_rfl) | (rw [if_neg (by omega)]; exact px_rfl))
      · omega
set_option maxRecDepth 100000 in
set_option maxHeartbeats 4000000 in
theorem c_X5_kindOf (d : Nat) {c : Int} : PC sc mX5_kindOf d 0 0 [.inl c] Γ I R (px (some (.inl (pw_and (pw_shr c 6) 3))) Γ I R) := by
  refine PC.ofPW (by decide) (Nat.le_of_ble_eq_true rfl) ?_
  refine PW.iload_n (pc := 0) dX5_kindOf_0 rfl ?_
  refine PW.bipush (pc := 1) dX5_kindOf_1 (by decide) ?_
  refine PW.ishr (pc := 3) dX5_kindOf_3 ?_
  refine PW.iconst (pc := 4) dX5_kindOf_4 ?_
  refine PW.iand (pc := 5) dX5_kindOf_5 ?_
  exact PW.ireturn (pc := 6) dX5_kindOf_6 rfl (px_rfl)
set_option maxRecDepth 100000 in
set_option maxHeartbeats 4000000 in
theorem c_X5_targetOf (d : Nat) {c : Int} : PC sc mX5_targetOf d 0 0 [.inl c] Γ I R (px (some (.inl (pw_and (pw_shr c 4) 3))) Γ I R) := by
  refine PC.ofPW (by decide) (Nat.le_of_ble_eq_true rfl) ?_
  refine PW.iload_n (pc := 0) dX5_targetOf_0 rfl ?_
  refine PW.iconst (pc := 1) dX5_targetOf_1 ?_
  refine PW.ishr (pc := 2) dX5_targetOf_2 ?_
  refine PW.iconst (pc := 3) dX5_targetOf_3 ?_
  refine PW.iand (pc := 4) dX5_targetOf_4 ?_
  exact PW.ireturn (pc := 5) dX5_targetOf_5 rfl (px_rfl)
set_option maxRecDepth 100000 in
set_option maxHeartbeats 4000000 in
theorem c_X5_firstOf (d : Nat) {c : Int} : PC sc mX5_firstOf d 0 0 [.inl c] Γ I R (px (some (.inl (pw_and (pw_shr c 2) 3))) Γ I R) := by
  refine PC.ofPW (by decide) (Nat.le_of_ble_eq_true rfl) ?_
  refine PW.iload_n (pc := 0) dX5_firstOf_0 rfl ?_
  refine PW.iconst (pc := 1) dX5_firstOf_1 ?_
  refine PW.ishr (pc := 2) dX5_firstOf_2 ?_
  refine PW.iconst (pc := 3) dX5_firstOf_3 ?_
  refine PW.iand (pc := 4) dX5_firstOf_4 ?_
  exact PW.ireturn (pc := 5) dX5_firstOf_5 rfl (px_rfl)
set_option maxRecDepth 100000 in
set_option maxHeartbeats 4000000 in
theorem c_X5_secondOf (d : Nat) {c : Int} : PC sc mX5_secondOf d 0 0 [.inl c] Γ I R (px (some (.inl (pw_and c 3))) Γ I R) := by
  refine PC.ofPW (by decide) (Nat.le_of_ble_eq_true rfl) ?_
  refine PW.iload_n (pc := 0) dX5_secondOf_0 rfl ?_
  refine PW.iconst (pc := 1) dX5_secondOf_1 ?_
  refine PW.iand (pc := 2) dX5_secondOf_2 ?_
  exact PW.ireturn (pc := 3) dX5_secondOf_3 rfl (px_rfl)
end LEAF
end
section
section TERMS
variable {sc : PSc} {Γ : List PTy} {R : PRm}
/-! Terms: 0 head, 1 left, 2 right, 3 depth, 4 letters (the rows lie behind the object), 5 size, 6 lasting -/
def TermsAt (Γ : List PTy) (R : PRm) (h n : Nat) : Prop := Γ[h]? = some (.inl 8) ∧ R h 0 = some (h + 1) ∧ R h 1 = some (h + 2) ∧ R h 2 = some (h + 3) ∧ R h 3 = some (h + 4) ∧ R h 4 = some (h + 5) ∧ Γ[h + 1]? = some (.inr (0, n)) ∧ Γ[h + 2]? = some (.inr (0, n)) ∧ Γ[h + 3]? = some (.inr (0, n)) ∧ Γ[h + 4]? = some (.inr (0, n)) ∧ Γ[h + 5]? = some (.inr (0, n)) ∧ n ≤ 200
/-- one row of the table -/
def TabE (I : PIm) (h : Nat) (tb : Int → Tm) (i : Int) : Prop :=
  (i < 4 → I (h + 1) i = i ∧ tb i = tc i ∧ I (h + 2) i = i ∧ I (h + 3) i = i) ∧
  (4 ≤ i → (0 ≤ I (h + 2) i ∧ I (h + 2) i < i ∧ 0 ≤ I (h + 3) i ∧ I (h + 3) i < i) ∧ ((I (h + 1) i = 4 ∧ I (h + 3) i = I (h + 2) i ∧ tb i = tf (tb (I (h + 2) i))) ∨ (I (h + 1) i = 5 ∧ tb i = tg (tb (I (h + 2) i)) (tb (I (h + 3) i))))) ∧
  I (h + 4) i = dep (tb i) ∧ I (h + 5) i = siz (tb i) ∧ dep (tb i) ≤ i
def Tab (I : PIm) (h : Nat) (sz : Int) (tb : Int → Tm) : Prop := 4 ≤ sz ∧ (∀ i, 0 ≤ i → i < sz → TabE I h tb i) ∧ ∀ i j, 0 ≤ i → i < sz → 0 ≤ j → j < sz → tb i = tb j → i = j
set_option maxRecDepth 100000 in
set_option maxHeartbeats 4000000 in
theorem Tab.row {I : PIm} {h : Nat} {sz : Int} {tb : Int → Tm} (T : Tab I h sz tb) {i : Int} (h0 : 0 ≤ i) (h1 : i < sz) : TabE I h tb i := T.2.1 i h0 h1
set_option maxRecDepth 100000 in
set_option maxHeartbeats 4000000 in
theorem Tab.dp {I : PIm} {h : Nat} {sz : Int} {tb : Int → Tm} (T : Tab I h sz tb) {i : Int} (h0 : 0 ≤ i) (h1 : i < sz) : 0 ≤ I (h + 4) i ∧ I (h + 4) i ≤ i := by
  obtain ⟨-, -, e1, -, e2⟩ := T.row h0 h1
  rw [e1]
  exact ⟨dep_nonneg _, e2⟩
set_option maxRecDepth 100000 in
set_option maxHeartbeats 4000000 in
theorem Tab.hd {I : PIm} {h : Nat} {sz : Int} {tb : Int → Tm} (T : Tab I h sz tb) {i : Int} (h0 : 0 ≤ i) (h1 : i < sz) : (0 ≤ I (h + 1) i ∧ I (h + 1) i ≤ 5) ∧ (0 ≤ I (h + 2) i ∧ I (h + 2) i ≤ i) ∧ (0 ≤ I (h + 3) i ∧ I (h + 3) i ≤ i) := by
  obtain ⟨e1, e2, -, -, -⟩ := T.row h0 h1
  by_cases hi : i < 4
  · obtain ⟨a, b, c, d⟩ := e1 hi
    omega
  · obtain ⟨a, b⟩ := e2 (by omega)
    rcases b with ⟨b, -⟩ | ⟨b, -⟩ <;> omega
/-- the memory with a row more -/
def apM (I : PIm) (h : Nat) (z top a b : Int) : PIm := pw_up (pw_up (pw_up (pw_up (pw_up (pw_up I (h + 1) z top) (h + 2) z a) (h + 3) z b) (h + 4) z (1 + max (I (h + 4) a) (I (h + 4) b))) (h + 5) z (1 + I (h + 5) a + (if top = 5 then I (h + 5) b else 0))) h 5 (z + 1)
set_option maxRecDepth 100000 in
set_option maxHeartbeats 4000000 in
theorem apM_1 {I : PIm} {h : Nat} {z top a b j : Int} : apM I h z top a b (h + 1) j = if j = z then top else I (h + 1) j := by simp [apM, pw_up]
set_option maxRecDepth 100000 in
set_option maxHeartbeats 4000000 in
theorem apM_2 {I : PIm} {h : Nat} {z top a b j : Int} : apM I h z top a b (h + 2) j = if j = z then a else I (h + 2) j := by simp [apM, pw_up]
set_option maxRecDepth 100000 in
set_option maxHeartbeats 4000000 in
theorem apM_3 {I : PIm} {h : Nat} {z top a b j : Int} : apM I h z top a b (h + 3) j = if j = z then b else I (h + 3) j := by simp [apM, pw_up]
set_option maxRecDepth 100000 in
set_option maxHeartbeats 4000000 in
theorem apM_4 {I : PIm} {h : Nat} {z top a b j : Int} : apM I h z top a b (h + 4) j = if j = z then 1 + max (I (h + 4) a) (I (h + 4) b) else I (h + 4) j := by simp [apM, pw_up]
set_option maxRecDepth 100000 in
set_option maxHeartbeats 4000000 in
theorem apM_5 {I : PIm} {h : Nat} {z top a b j : Int} : apM I h z top a b (h + 5) j = if j = z then 1 + I (h + 5) a + (if top = 5 then I (h + 5) b else 0) else I (h + 5) j := by simp [apM, pw_up]
set_option maxRecDepth 100000 in
set_option maxHeartbeats 4000000 in
theorem apM_0 {I : PIm} {h : Nat} {z top a b j : Int} : apM I h z top a b h j = if j = 5 then z + 1 else I h j := by simp [apM, pw_up]
set_option maxRecDepth 100000 in
set_option maxHeartbeats 4000000 in
theorem apM_o {I : PIm} {h p : Nat} {z top a b j : Int} (hp : ¬ (h ≤ p ∧ p ≤ h + 5)) : apM I h z top a b p j = I p j := by
  unfold apM
  rw [pw_up_other (by omega), pw_up_other (by omega), pw_up_other (by omega), pw_up_other (by omega), pw_up_other (by omega), pw_up_other (by omega)]
set_option maxRecDepth 100000 in
set_option maxHeartbeats 4000000 in
theorem c_X8_has (d : Nat) {I : PIm} {h n : Nat} {t : Int} (T : TermsAt Γ R h n) (hs : Rg (I h 5)) (ht : Rg t) : PC sc mX8_has d 0 0 [.inr (some h), .inl t] Γ I R (px (some (.inl (bi (0 ≤ t ∧ t < I h 5 ∧ t < n)))) Γ I R) := by
  obtain ⟨t0, t1, -, -, -, -, t6, -, -, -, -, t11⟩ := T
  refine PC.ofPW (by decide) (Nat.le_of_ble_eq_true rfl) ?_
  refine PW.iload_n (pc := 0) dX8_has_0 rfl ?_
  refine PW.if_lt (pc := 1) (tgt := 25) dX8_has_1 (by decide) (by first | omega | exact rg_of _) (fun c_1 => ?_) (fun c_1 => ?_)
  · refine PW.iconst (pc := 25) dX8_has_25 ?_
    exact PW.zreturn (pc := 26) dX8_has_26 rfl (by first | exact Or.inl rfl | exact Or.inr rfl | omega) (by first | (rw [bi_pos (by omega)]; exact px_rfl) | (rw [bi_neg (by omega)]; exact px_rfl))
  · refine PW.iload_n (pc := 4) dX8_has_4 rfl ?_
    refine PW.aload_n (pc := 5) dX8_has_5 rfl ?_
    refine PW.geti (pc := 6) dX8_has_6 fl_X8_36 (by decide) (by first | assumption | rfl) ?_
    refine PW.icmp_ge (pc := 9) (tgt := 25) dX8_has_9 (by decide) (by first | omega | exact rg_of _) (by first | omega | exact rg_of _) (fun c_9 => ?_) (fun c_9 => ?_)
    · refine PW.iconst (pc := 25) dX8_has_25 ?_
      exact PW.zreturn (pc := 26) dX8_has_26 rfl (by first | exact Or.inl rfl | exact Or.inr rfl | omega) (by first | (rw [bi_pos (by omega)]; exact px_rfl) | (rw [bi_neg (by omega)]; exact px_rfl))
    · refine PW.iload_n (pc := 12) dX8_has_12 rfl ?_
      refine PW.aload_n (pc := 13) dX8_has_13 rfl ?_
      refine PW.getr (pc := 14) dX8_has_14 fl_X8_15 (by first | assumption | rfl) (by first | assumption | rfl) ?_
      refine PW.alen (pc := 17) dX8_has_17 (by first | assumption | rfl) ?_
      refine PW.icmp_ge (pc := 18) (tgt := 25) dX8_has_18 (by decide) (by first | omega | exact rg_of _) (by first | omega | exact rg_of _) (fun c_18 => ?_) (fun c_18 => ?_)
      · refine PW.iconst (pc := 25) dX8_has_25 ?_
        exact PW.zreturn (pc := 26) dX8_has_26 rfl (by first | exact Or.inl rfl | exact Or.inr rfl | omega) (by first | (rw [bi_pos (by omega)]; exact px_rfl) | (rw [bi_neg (by omega)]; exact px_rfl))
      · refine PW.iconst (pc := 21) dX8_has_21 ?_
        refine PW.goto (pc := 22) (tgt := 26) dX8_has_22 (by decide) ?_
        exact PW.zreturn (pc := 26) dX8_has_26 rfl (by first | exact Or.inl rfl | exact Or.inr rfl | omega) (by first | (rw [bi_pos (by omega)]; exact px_rfl) | (rw [bi_neg (by omega)]; exact px_rfl))
set_option maxRecDepth 100000 in
set_option maxHeartbeats 4000000 in
theorem c_X8_forgetAll (d : Nat) {I : PIm} {h : Nat} (hh : Γ[h]? = some (.inl 8)) : PC sc mX8_forgetAll d 0 0 [.inr (some h)] Γ I R (px none Γ (pw_up (pw_up I h 5 4) h 6 4) R) := by
  refine PC.ofPW (by decide) (Nat.le_of_ble_eq_true rfl) ?_
  refine PW.aload_n (pc := 0) dX8_forgetAll_0 rfl ?_
  refine PW.iconst (pc := 1) dX8_forgetAll_1 ?_
  refine PW.puti (pc := 2) dX8_forgetAll_2 fl_X8_36 (by first | assumption | rfl) ?_
  refine PW.aload_n (pc := 5) dX8_forgetAll_5 rfl ?_
  refine PW.iconst (pc := 6) dX8_forgetAll_6 ?_
  refine PW.puti (pc := 7) dX8_forgetAll_7 fl_X8_40 (by first | assumption | rfl) ?_
  exact PW.vreturn (pc := 10) dX8_forgetAll_10 rfl (px_rfl)
set_option maxRecDepth 100000 in
set_option maxHeartbeats 4000000 in
theorem c_X8_makeLasting (d : Nat) {I : PIm} {h : Nat} (hh : Γ[h]? = some (.inl 8)) : PC sc mX8_makeLasting d 0 0 [.inr (some h)] Γ I R (px none Γ (pw_up I h 6 (I h 5)) R) := by
  refine PC.ofPW (by decide) (Nat.le_of_ble_eq_true rfl) ?_
  refine PW.aload_n (pc := 0) dX8_makeLasting_0 rfl ?_
  refine PW.aload_n (pc := 1) dX8_makeLasting_1 rfl ?_
  refine PW.geti (pc := 2) dX8_makeLasting_2 fl_X8_36 (by decide) (by first | assumption | rfl) ?_
  refine PW.puti (pc := 5) dX8_makeLasting_5 fl_X8_40 (by first | assumption | rfl) ?_
  exact PW.vreturn (pc := 8) dX8_makeLasting_8 rfl (px_rfl)
set_option maxRecDepth 100000 in
set_option maxHeartbeats 4000000 in
theorem c_X8_dropPassing (d : Nat) {I : PIm} {h : Nat} (hh : Γ[h]? = some (.inl 8)) : PC sc mX8_dropPassing d 0 0 [.inr (some h)] Γ I R (px none Γ (pw_up I h 5 (I h 6)) R) := by
  refine PC.ofPW (by decide) (Nat.le_of_ble_eq_true rfl) ?_
  refine PW.aload_n (pc := 0) dX8_dropPassing_0 rfl ?_
  refine PW.aload_n (pc := 1) dX8_dropPassing_1 rfl ?_
  refine PW.geti (pc := 2) dX8_dropPassing_2 fl_X8_40 (by decide) (by first | assumption | rfl) ?_
  refine PW.puti (pc := 5) dX8_dropPassing_5 fl_X8_36 (by first | assumption | rfl) ?_
  exact PW.vreturn (pc := 8) dX8_dropPassing_8 rfl (px_rfl)
set_option maxRecDepth 100000 in
set_option maxHeartbeats 4000000 in
theorem c_X8_append (d : Nat) {I : PIm} {h n : Nat} {z top a b : Int} (T : TermsAt Γ R h n) (hz : 0 ≤ z) (hz1 : z < n) (ht : Rg top) (ha : 0 ≤ a ∧ a < z) (hb : 0 ≤ b ∧ b < z) (hda : Rg (I (h + 4) a)) (hdb : Rg (I (h + 4) b)) : PC sc mX8_append (d + 1) 0 0 [.inr (some h), .inl z, .inl top, .inl a, .inl b] Γ I R (px (some (.inl z)) Γ (apM I h z top a b) R) := by
  obtain ⟨t0, t1, t2, t3, t4, t5, t6, t7, t8, t9, t10, t11⟩ := T
  refine PC.ofPW (by decide) (Nat.le_of_ble_eq_true rfl) ?_
  have e1 : ∀ j, pw_up (pw_up (pw_up I (h + 1) z top) (h + 2) z a) (h + 3) z b (h + 4) j = I (h + 4) j := fun j => by simp [pw_up]
  have e2 : ∀ j, pw_up (pw_up (pw_up (pw_up I (h + 1) z top) (h + 2) z a) (h + 3) z b) (h + 4) z (1 + max (I (h + 4) a) (I (h + 4) b)) (h + 5) j = I (h + 5) j := fun j => by simp [pw_up]
  refine PW.aload_n (pc := 0) dX8_append_0 rfl ?_
  refine PW.getr (pc := 1) dX8_append_1 fl_X8_15 (by first | assumption | rfl) (by first | assumption | rfl) ?_
  refine PW.iload_n (pc := 4) dX8_append_4 rfl ?_
  refine PW.iload_n (pc := 5) dX8_append_5 rfl ?_
  refine PW.iast (pc := 6) dX8_append_6 (by first | assumption | rfl) (by omega) (by omega) (by omega) ?_
  refine PW.aload_n (pc := 7) dX8_append_7 rfl ?_
  refine PW.getr (pc := 8) dX8_append_8 fl_X8_21 (by first | assumption | rfl) (by first | assumption | rfl) ?_
  refine PW.iload_n (pc := 11) dX8_append_11 rfl ?_
  refine PW.iload_n (pc := 12) dX8_append_12 rfl ?_
  refine PW.iast (pc := 13) dX8_append_13 (by first | assumption | rfl) (by omega) (by omega) (by omega) ?_
  refine PW.aload_n (pc := 14) dX8_append_14 rfl ?_
  refine PW.getr (pc := 15) dX8_append_15 fl_X8_24 (by first | assumption | rfl) (by first | assumption | rfl) ?_
  refine PW.iload_n (pc := 18) dX8_append_18 rfl ?_
  refine PW.iload (pc := 19) dX8_append_19 rfl ?_
  refine PW.iast (pc := 21) dX8_append_21 (by first | assumption | rfl) (by omega) (by omega) (by omega) ?_
  refine PW.aload_n (pc := 22) dX8_append_22 rfl ?_
  refine PW.getr (pc := 23) dX8_append_23 fl_X8_27 (by first | assumption | rfl) (by first | assumption | rfl) ?_
  refine PW.iload_n (pc := 26) dX8_append_26 rfl ?_
  refine PW.iconst (pc := 27) dX8_append_27 ?_
  refine PW.aload_n (pc := 28) dX8_append_28 rfl ?_
  refine PW.getr (pc := 29) dX8_append_29 fl_X8_27 (by first | assumption | rfl) (by first | assumption | rfl) ?_
  refine PW.iload_n (pc := 32) dX8_append_32 rfl ?_
  refine PW.iald (pc := 33) dX8_append_33 (by first | assumption | rfl) (by omega) (by omega) (by omega) ?_
  refine PW.aload_n (pc := 34) dX8_append_34 rfl ?_
  refine PW.getr (pc := 35) dX8_append_35 fl_X8_27 (by first | assumption | rfl) (by first | assumption | rfl) ?_
  refine PW.iload (pc := 38) dX8_append_38 rfl ?_
  refine PW.iald (pc := 40) dX8_append_40 (by first | assumption | rfl) (by omega) (by omega) (by omega) ?_
  rw [e1, e1]
  refine PW.mmax (pc := 41) dX8_append_41 mm_X8_9 (by first | omega | exact rg_of _) (by first | omega | exact rg_of _) (Nat.le_of_ble_eq_true rfl) ?_
  refine PW.iadd (pc := 44) dX8_append_44 ?_
  refine PW.iast (pc := 45) dX8_append_45 (by first | assumption | rfl) (by omega) (by omega) (by omega) ?_
  refine PW.aload_n (pc := 46) dX8_append_46 rfl ?_
  refine PW.getr (pc := 47) dX8_append_47 fl_X8_30 (by first | assumption | rfl) (by first | assumption | rfl) ?_
  refine PW.iload_n (pc := 50) dX8_append_50 rfl ?_
  refine PW.iconst (pc := 51) dX8_append_51 ?_
  refine PW.aload_n (pc := 52) dX8_append_52 rfl ?_
  refine PW.getr (pc := 53) dX8_append_53 fl_X8_30 (by first | assumption | rfl) (by first | assumption | rfl) ?_
  refine PW.iload_n (pc := 56) dX8_append_56 rfl ?_
  refine PW.iald (pc := 57) dX8_append_57 (by first | assumption | rfl) (by omega) (by omega) (by omega) ?_
  rw [e2]
  refine PW.iadd (pc := 58) dX8_append_58 ?_
  refine PW.iload_n (pc := 59) dX8_append_59 rfl ?_
  refine PW.iconst (pc := 60) dX8_append_60 ?_
  refine PW.icmp_ne (pc := 61) (tgt := 74) dX8_append_61 (by decide) (by first | omega | exact rg_of _) (by first | omega | exact rg_of _) (fun c_61 => ?_) (fun c_61 => ?_)
  · refine PW.iconst (pc := 74) dX8_append_74 ?_
    refine PW.iadd (pc := 75) dX8_append_75 ?_
    refine PW.iast (pc := 76) dX8_append_76 (by first | assumption | rfl) (by omega) (by omega) (by omega) ?_
    refine PW.aload_n (pc := 77) dX8_append_77 rfl ?_
    refine PW.iload_n (pc := 78) dX8_append_78 rfl ?_
    refine PW.iconst (pc := 79) dX8_append_79 ?_
    refine PW.iadd (pc := 80) dX8_append_80 ?_
    refine PW.puti (pc := 81) dX8_append_81 fl_X8_36 (by first | assumption | rfl) ?_
    refine PW.iload_n (pc := 84) dX8_append_84 rfl ?_
    exact PW.ireturn (pc := 85) dX8_append_85 rfl (by first | (have e : apM I h z top a b = _ := (by unfold apM; rw [if_pos (by omega)]); rw [e]; exact px_rfl) | (have e : apM I h z top a b = _ := (by unfold apM; rw [if_neg (by omega)]); rw [e]; exact px_rfl))
  · refine PW.aload_n (pc := 64) dX8_append_64 rfl ?_
    refine PW.getr (pc := 65) dX8_append_65 fl_X8_30 (by first | assumption | rfl) (by first | assumption | rfl) ?_
    refine PW.iload (pc := 68) dX8_append_68 rfl ?_
    refine PW.iald (pc := 70) dX8_append_70 (by first | assumption | rfl) (by omega) (by omega) (by omega) ?_
    rw [e2]
    refine PW.goto (pc := 71) (tgt := 75) dX8_append_71 (by decide) ?_
    refine PW.iadd (pc := 75) dX8_append_75 ?_
    refine PW.iast (pc := 76) dX8_append_76 (by first | assumption | rfl) (by omega) (by omega) (by omega) ?_
    refine PW.aload_n (pc := 77) dX8_append_77 rfl ?_
    refine PW.iload_n (pc := 78) dX8_append_78 rfl ?_
    refine PW.iconst (pc := 79) dX8_append_79 ?_
    refine PW.iadd (pc := 80) dX8_append_80 ?_
    refine PW.puti (pc := 81) dX8_append_81 fl_X8_36 (by first | assumption | rfl) ?_
    refine PW.iload_n (pc := 84) dX8_append_84 rfl ?_
    exact PW.ireturn (pc := 85) dX8_append_85 rfl (by first | (have e : apM I h z top a b = _ := (by unfold apM; rw [if_pos (by omega)]); rw [e]; exact px_rfl) | (have e : apM I h z top a b = _ := (by unfold apM; rw [if_neg (by omega)]); rw [e]; exact px_rfl))
set_option maxRecDepth 100000 in
set_option maxHeartbeats 4000000 in
/-- a row more: still a table -/
theorem Tab.ext {I : PIm} {h : Nat} {z : Int} {tb : Int → Tm} (T : Tab I h z tb) {top a b : Int} (ht : top = 4 ∨ top = 5) (ha : 0 ≤ a ∧ a < z) (hb : 0 ≤ b ∧ b < z) (h4 : top = 4 → b = a) {t : Tm} (et : t = if top = 5 then tg (tb a) (tb b) else tf (tb a)) (hno : ∀ j, 0 ≤ j → j < z → tb j ≠ t) :
    Tab (apM I h z top a b) h (z + 1) (fun j => if j = z then t else tb j) := by
  obtain ⟨T0, T1, T2⟩ := T
  refine ⟨by omega, fun i h0 h1 => ?_, fun i j h0 h1 g0 g1 e => ?_⟩
  · by_cases hi : i = z
    · subst hi
      have ra := T1 a ha.1 ha.2
      have rb := T1 b hb.1 hb.2
      refine ⟨fun q => by omega, fun _ => ?_, ?_, ?_, ?_⟩
      · rw [apM_1, apM_2, apM_3]
        simp only [if_true]
        rw [if_neg (show ¬ a = i by omega), if_neg (show ¬ b = i by omega)]
        refine ⟨by omega, ?_⟩
        rcases ht with rfl | rfl
        · exact Or.inl ⟨rfl, h4 rfl, by rw [et, if_neg (by decide)]⟩
        · exact Or.inr ⟨rfl, by rw [et, if_pos rfl]⟩
      · rw [apM_4]
        simp only [if_true]
        rw [ra.2.2.1, rb.2.2.1, et]
        rcases ht with rfl | rfl
        · rw [if_neg (by decide), h4 rfl, dep_tf, Int.max_self]
        · rw [if_pos rfl, dep_tg]
      · rw [apM_5]
        simp only [if_true]
        rw [ra.2.2.2.1, rb.2.2.2.1, et]
        rcases ht with rfl | rfl
        · rw [if_neg (by decide), if_neg (by decide), siz_tf]
          omega
        · rw [if_pos rfl, if_pos rfl, siz_tg]
      · simp only [if_true]
        have da := ra.2.2.2.2
        have db := rb.2.2.2.2
        rw [et]
        rcases ht with rfl | rfl
        · rw [if_neg (by decide), dep_tf]
          omega
        · rw [if_pos rfl, dep_tg]
          omega
    · have r := T1 i h0 (by omega)
      unfold TabE at r ⊢
      rw [apM_1, apM_2, apM_3, apM_4, apM_5, if_neg hi, if_neg hi, if_neg hi, if_neg hi, if_neg hi]
      simp only [if_neg hi]
      refine ⟨r.1, fun q => ?_, r.2.2⟩
      have r2 := r.2.1 q
      rw [if_neg (show ¬ I (h + 2) i = z by omega), if_neg (show ¬ I (h + 3) i = z by omega)]
      exact r2
  · by_cases hi : i = z <;> by_cases hj : j = z
    · omega
    · simp only [if_pos hi, if_neg hj] at e
      exact absurd e.symm (hno j g0 (by omega))
    · simp only [if_neg hi, if_pos hj] at e
      exact absurd e (hno i h0 (by omega))
    · simp only [if_neg hi, if_neg hj] at e
      exact T2 i j h0 (by omega) g0 (by omega) e
set_option maxRecDepth 100000 in
set_option maxHeartbeats 4000000 in
/-- what is not found by its parts is not there -/
theorem Tab.nowhere {I : PIm} {h : Nat} {z : Int} {tb : Int → Tm} (T : Tab I h z tb) {top a b : Int} (ht : top = 4 ∨ top = 5) (ha : 0 ≤ a ∧ a < z) (hb : 0 ≤ b ∧ b < z) (h4 : top = 4 → b = a) {t : Tm} (et : t = if top = 5 then tg (tb a) (tb b) else tf (tb a))
    (hno : ∀ j, 4 ≤ j → j < z → ¬ (I (h + 1) j = top ∧ I (h + 2) j = a ∧ I (h + 3) j = b)) : ∀ j, 0 ≤ j → j < z → tb j ≠ t := by
  intro j h0 h1 e
  obtain ⟨r1, r2, -⟩ := T.row h0 h1
  by_cases hj : j < 4
  · rw [(r1 hj).2.1, et] at e
    split at e
    · exact tc_tg e
    · exact tc_tf e
  · obtain ⟨⟨q1, q2, q3, q4⟩, q⟩ := r2 (by omega)
    rcases ht with rfl | rfl
    · rw [if_neg (by decide)] at et
      rcases q with ⟨w1, w2, w3⟩ | ⟨w1, w3⟩
      · rw [w3, et] at e
        have := T.2.2 _ _ q1 (by omega) ha.1 ha.2 (tf_inj e)
        exact hno j (by omega) h1 ⟨w1, this, by rw [w2, this, h4 rfl]⟩
      · rw [w3, et] at e
        exact tf_tg e.symm
    · rw [if_pos rfl] at et
      rcases q with ⟨w1, w2, w3⟩ | ⟨w1, w3⟩
      · rw [w3, et] at e
        exact tf_tg e
      · rw [w3, et] at e
        have e1 := T.2.2 _ _ q1 (by omega) ha.1 ha.2 (tg_inj e).1
        have e2 := T.2.2 _ _ q3 (by omega) hb.1 hb.2 (tg_inj e).2
        exact hno j (by omega) h1 ⟨w1, e1, e2⟩
set_option maxRecDepth 100000 in
set_option maxHeartbeats 4000000 in
theorem Tab.found {I : PIm} {h : Nat} {z : Int} {tb : Int → Tm} (T : Tab I h z tb) {top a b j : Int} (ht : top = 4 ∨ top = 5) {t : Tm} (et : t = if top = 5 then tg (tb a) (tb b) else tf (tb a)) (h0 : 4 ≤ j) (h1 : j < z) (e : I (h + 1) j = top ∧ I (h + 2) j = a ∧ I (h + 3) j = b) : tb j = t := by
  obtain ⟨-, r2, -⟩ := T.row (by omega) h1
  obtain ⟨-, q⟩ := r2 h0
  obtain ⟨e1, e2, e3⟩ := e
  rw [et]
  rcases ht with rfl | rfl
  · rw [if_neg (by decide)]
    rcases q with ⟨w1, w2, w3⟩ | ⟨w1, w3⟩
    · rw [w3, e2]
    · omega
  · rw [if_pos rfl]
    rcases q with ⟨w1, w2, w3⟩ | ⟨w1, w3⟩
    · omega
    · rw [w3, e2, e3]
/-- behind a making: the term's place, the table, what has changed -/
def Made (I I' : PIm) (h : Nat) (tb tb' : Int → Tm) (t : Tm) (i : Int) : Prop :=
  (0 ≤ i ∧ i < I' h 5) ∧ tb' i = t ∧ Tab I' h (I' h 5) tb' ∧ (I h 5 ≤ I' h 5 ∧ I' h 5 ≤ I h 5 + 1) ∧ (∀ j, j < I h 5 → tb' j = tb j) ∧ (∀ j, j < I' h 5 → j < I h 5 ∨ tb' j = t) ∧ (∀ p k, ¬ (h ≤ p ∧ p ≤ h + 5) → I' p k = I p k) ∧ I' h 6 = I h 6
set_option maxRecDepth 100000 in
set_option maxHeartbeats 4000000 in
theorem c_X8_make (d : Nat) {I : PIm} {h n : Nat} {tb : Int → Tm} {top a b0 b : Int} (T : TermsAt Γ R h n) (TB : Tab I h (I h 5) tb) (hz : I h 5 < n) (ht : top = 4 ∨ top = 5) (ha : 0 ≤ a ∧ a < I h 5) (hb : 0 ≤ b ∧ b < I h 5) (hb0 : Rg b0) (e4 : b = if top = 5 then b0 else a) {t : Tm} (et : t = if top = 5 then tg (tb a) (tb b) else tf (tb a)) :
    PC sc mX8_make (d + 2) 0 0 [.inr (some h), .inl top, .inl a, .inl b0] Γ I R (fun v Γ' I' R' => Γ' = Γ ∧ R' = R ∧ ∃ i tb', v = some (.inl i) ∧ Made I I' h tb tb' t i) := by
  obtain ⟨t0, t1, t2, t3, t4, t5, t6, t7, t8, t9, t10, t11⟩ := id T
  have hz0 := TB.1
  have h4 : top = 4 → b = a := fun q => by rw [e4, if_neg (by omega)]
  have da := TB.dp ha.1 ha.2
  have db := TB.dp hb.1 hb.2
  have fin : (∀ j, 4 ≤ j → j < I h 5 → ¬ (I (h + 1) j = top ∧ I (h + 2) j = a ∧ I (h + 3) j = b)) → ∀ o : Option PV, PW sc mX8_make (d + 2) 0 0 (fun v Γ' I' R' => Γ' = Γ ∧ R' = R ∧ ∃ i tb', v = some (.inl i) ∧ Made I I' h tb tb' t i) 96 [some (.inr (some h)), some (.inl top), some (.inl a), some (.inl b0), some (.inl b), o] [] Γ I R := by
    intro hno o
    have hex := TB.ext ht ha hb h4 et (TB.nowhere ht ha hb h4 et hno)
    have hM : Made I (apM I h (I h 5) top a b) h tb (fun j => if j = I h 5 then t else tb j) t (I h 5) := by
      refine ⟨by rw [apM_0, if_pos rfl]; omega, by simp, by rw [apM_0, if_pos rfl]; exact hex, by rw [apM_0, if_pos rfl]; omega, fun j hj => if_neg (by omega), fun j hj => ?_, fun p k hp => apM_o hp, by rw [apM_0, if_neg (by decide)]⟩
      rw [apM_0, if_pos rfl] at hj
      by_cases q : j = I h 5
      · exact Or.inr (if_pos q)
      · exact Or.inl (by omega)
    refine PW.aload_n (pc := 96) dX8_make_96 rfl ?_
    refine PW.geti (pc := 97) dX8_make_97 fl_X8_36 (by decide) (by first | assumption | rfl) ?_
    refine PW.if_lt (pc := 100) (tgt := 130) dX8_make_100 (by decide) (by first | omega | exact rg_of _) (fun c_100 => ?_) (fun c_100 => ?_)
    · omega
    · refine PW.aload_n (pc := 103) dX8_make_103 rfl ?_
      refine PW.geti (pc := 104) dX8_make_104 fl_X8_36 (by decide) (by first | assumption | rfl) ?_
      refine PW.aload_n (pc := 107) dX8_make_107 rfl ?_
      refine PW.getr (pc := 108) dX8_make_108 fl_X8_15 (by first | assumption | rfl) (by first | assumption | rfl) ?_
      refine PW.alen (pc := 111) dX8_make_111 (by first | assumption | rfl) ?_
      refine PW.icmp_ge (pc := 112) (tgt := 130) dX8_make_112 (by decide) (by first | omega | exact rg_of _) (by first | omega | exact rg_of _) (fun c_112 => ?_) (fun c_112 => ?_)
      · omega
      · refine PW.aload_n (pc := 115) dX8_make_115 rfl ?_
        refine PW.aload_n (pc := 116) dX8_make_116 rfl ?_
        refine PW.geti (pc := 117) dX8_make_117 fl_X8_36 (by decide) (by first | assumption | rfl) ?_
        refine PW.iload_n (pc := 120) dX8_make_120 rfl ?_
        refine PW.iload_n (pc := 121) dX8_make_121 rfl ?_
        refine PW.iload (pc := 122) dX8_make_122 rfl ?_
        refine PW.invV0x (pc := 124) dX8_make_124 mv_X8_47 (c_X8_append d T (by omega) (by omega) (by omega) ha hb (by omega) (by omega)) (by first | assumption | rfl) rfl rfl (Nat.le_of_ble_eq_true rfl) ?_
        refine PW.goto (pc := 127) (tgt := 131) dX8_make_127 (by decide) ?_
        exact PW.ireturn (pc := 131) dX8_make_131 rfl (⟨rfl, rfl, I h 5, _, rfl, hM⟩)
  have loop : ∀ (N : Nat) (i : Int), (I h 5 - i).toNat = N → 4 ≤ i → i ≤ I h 5 → (∀ j, 4 ≤ j → j < i → ¬ (I (h + 1) j = top ∧ I (h + 2) j = a ∧ I (h + 3) j = b)) → PW sc mX8_make (d + 2) 0 0 (fun v Γ' I' R' => Γ' = Γ ∧ R' = R ∧ ∃ i tb', v = some (.inl i) ∧ Made I I' h tb tb' t i) 34 [some (.inr (some h)), some (.inl top), some (.inl a), some (.inl b0), some (.inl b), some (.inl i)] [] Γ I R := by
    intro N
    induction N using Nat.strongRecOn with
    | _ N ih =>
      intro i hN hi hi2 hno
      by_cases hlt : i < I h 5
      · have hr := TB.hd (i := i) (by omega) hlt
        have next : ¬ (I (h + 1) i = top ∧ I (h + 2) i = a ∧ I (h + 3) i = b) → PW sc mX8_make (d + 2) 0 0 (fun v Γ' I' R' => Γ' = Γ ∧ R' = R ∧ ∃ i tb', v = some (.inl i) ∧ Made I I' h tb tb' t i) 90 [some (.inr (some h)), some (.inl top), some (.inl a), some (.inl b0), some (.inl b), some (.inl i)] [] Γ I R := by
          intro hne
          refine PW.iinc (pc := 90) dX8_make_90 rfl (by decide) ?_
          refine PW.goto (pc := 93) (tgt := 34) dX8_make_93 (by decide) ?_
          exact ih _ (by omega) (i + 1) rfl (by omega) (by omega) (fun j q1 q2 => by by_cases q : j = i; (· rw [q]; exact hne); (· exact hno j q1 (by omega)))
        refine PW.iload (pc := 34) dX8_make_34 rfl ?_
        refine PW.aload_n (pc := 36) dX8_make_36 rfl ?_
        refine PW.geti (pc := 37) dX8_make_37 fl_X8_36 (by decide) (by first | assumption | rfl) ?_
        refine PW.icmp_ge (pc := 40) (tgt := 96) dX8_make_40 (by decide) (by first | omega | exact rg_of _) (by first | omega | exact rg_of _) (fun c_40 => ?_) (fun c_40 => ?_)
        · omega
        · refine PW.iload (pc := 43) dX8_make_43 rfl ?_
          refine PW.aload_n (pc := 45) dX8_make_45 rfl ?_
          refine PW.getr (pc := 46) dX8_make_46 fl_X8_15 (by first | assumption | rfl) (by first | assumption | rfl) ?_
          refine PW.alen (pc := 49) dX8_make_49 (by first | assumption | rfl) ?_
          refine PW.icmp_ge (pc := 50) (tgt := 96) dX8_make_50 (by decide) (by first | omega | exact rg_of _) (by first | omega | exact rg_of _) (fun c_50 => ?_) (fun c_50 => ?_)
          · omega
          · refine PW.aload_n (pc := 53) dX8_make_53 rfl ?_
            refine PW.getr (pc := 54) dX8_make_54 fl_X8_15 (by first | assumption | rfl) (by first | assumption | rfl) ?_
            refine PW.iload (pc := 57) dX8_make_57 rfl ?_
            refine PW.iald (pc := 59) dX8_make_59 (by first | assumption | rfl) (by omega) (by omega) (by omega) ?_
            refine PW.iload_n (pc := 60) dX8_make_60 rfl ?_
            refine PW.icmp_ne (pc := 61) (tgt := 90) dX8_make_61 (by decide) (by first | omega | exact rg_of _) (by first | omega | exact rg_of _) (fun c_61 => ?_) (fun c_61 => ?_)
            · exact next (by omega)
            · refine PW.aload_n (pc := 64) dX8_make_64 rfl ?_
              refine PW.getr (pc := 65) dX8_make_65 fl_X8_21 (by first | assumption | rfl) (by first | assumption | rfl) ?_
              refine PW.iload (pc := 68) dX8_make_68 rfl ?_
              refine PW.iald (pc := 70) dX8_make_70 (by first | assumption | rfl) (by omega) (by omega) (by omega) ?_
              refine PW.iload_n (pc := 71) dX8_make_71 rfl ?_
              refine PW.icmp_ne (pc := 72) (tgt := 90) dX8_make_72 (by decide) (by first | omega | exact rg_of _) (by first | omega | exact rg_of _) (fun c_72 => ?_) (fun c_72 => ?_)
              · exact next (by omega)
              · refine PW.aload_n (pc := 75) dX8_make_75 rfl ?_
                refine PW.getr (pc := 76) dX8_make_76 fl_X8_24 (by first | assumption | rfl) (by first | assumption | rfl) ?_
                refine PW.iload (pc := 79) dX8_make_79 rfl ?_
                refine PW.iald (pc := 81) dX8_make_81 (by first | assumption | rfl) (by omega) (by omega) (by omega) ?_
                refine PW.iload (pc := 82) dX8_make_82 rfl ?_
                refine PW.icmp_ne (pc := 84) (tgt := 90) dX8_make_84 (by decide) (by first | omega | exact rg_of _) (by first | omega | exact rg_of _) (fun c_84 => ?_) (fun c_84 => ?_)
                · exact next (by omega)
                · refine PW.iload (pc := 87) dX8_make_87 rfl ?_
                  exact PW.ireturn (pc := 89) dX8_make_89 rfl (⟨rfl, rfl, i, tb, rfl, by omega, TB.found ht et hi hlt (by omega), TB, by omega, fun _ _ => rfl, fun j hj => Or.inl hj, fun _ _ _ => rfl, rfl⟩)
      · refine PW.iload (pc := 34) dX8_make_34 rfl ?_
        refine PW.aload_n (pc := 36) dX8_make_36 rfl ?_
        refine PW.geti (pc := 37) dX8_make_37 fl_X8_36 (by decide) (by first | assumption | rfl) ?_
        refine PW.icmp_ge (pc := 40) (tgt := 96) dX8_make_40 (by decide) (by first | omega | exact rg_of _) (by first | omega | exact rg_of _) (fun c_40 => ?_) (fun c_40 => ?_)
        · exact fin (fun j q1 q2 => hno j q1 (by omega)) _
        · omega
  refine PC.ofPW (by decide) (Nat.le_of_ble_eq_true rfl) ?_
  have hza : Rg a := by omega
  have hzb : Rg b := by omega
  have hzs : Rg (I h 5) := by omega
  by_cases hc : top = 5
  · obtain rfl := show b = b0 from e4.trans (if_pos hc)
    refine PW.iload_n (pc := 0) dX8_make_0 rfl ?_
    refine PW.iconst (pc := 1) dX8_make_1 ?_
    refine PW.icmp_ne (pc := 2) (tgt := 9) dX8_make_2 (by decide) (by first | omega | exact rg_of _) (by first | omega | exact rg_of _) (fun c_2 => ?_) (fun c_2 => ?_)
    · omega
    · refine PW.iload_n (pc := 5) dX8_make_5 rfl ?_
      refine PW.goto (pc := 6) (tgt := 10) dX8_make_6 (by decide) ?_
      refine PW.istore (pc := 10) dX8_make_10 (by decide) ?_
      refine PW.aload_n (pc := 12) dX8_make_12 rfl ?_
      refine PW.iload_n (pc := 13) dX8_make_13 rfl ?_
      refine PW.invV0x (pc := 14) dX8_make_14 mv_X8_43 (c_X8_has (d + 1) T hzs (by omega)) (by first | assumption | rfl) rfl rfl (Nat.le_of_ble_eq_true rfl) ?_
      refine PW.if_eq (pc := 17) (tgt := 29) dX8_make_17 (by decide) (rg_bi _) (fun c_17 => ?_) (fun c_17 => ?_)
      · exact absurd (by omega) (bi0 c_17)
      · refine PW.aload_n (pc := 20) dX8_make_20 rfl ?_
        refine PW.iload (pc := 21) dX8_make_21 rfl ?_
        refine PW.invV0x (pc := 23) dX8_make_23 mv_X8_43 (c_X8_has (d + 1) T hzs (by omega)) (by first | assumption | rfl) rfl rfl (Nat.le_of_ble_eq_true rfl) ?_
        refine PW.if_ne (pc := 26) (tgt := 31) dX8_make_26 (by decide) (rg_bi _) (fun c_26 => ?_) (fun c_26 => ?_)
        · refine PW.iconst (pc := 31) dX8_make_31 ?_
          refine PW.istore (pc := 32) dX8_make_32 (by decide) ?_
          exact loop _ 4 rfl (by omega) (by omega) (fun j q1 q2 => by omega)
        · exact absurd (by omega) (bi0 c_26)
  · obtain rfl := show b = a from e4.trans (if_neg hc)
    refine PW.iload_n (pc := 0) dX8_make_0 rfl ?_
    refine PW.iconst (pc := 1) dX8_make_1 ?_
    refine PW.icmp_ne (pc := 2) (tgt := 9) dX8_make_2 (by decide) (by first | omega | exact rg_of _) (by first | omega | exact rg_of _) (fun c_2 => ?_) (fun c_2 => ?_)
    · refine PW.iload_n (pc := 9) dX8_make_9 rfl ?_
      refine PW.istore (pc := 10) dX8_make_10 (by decide) ?_
      refine PW.aload_n (pc := 12) dX8_make_12 rfl ?_
      refine PW.iload_n (pc := 13) dX8_make_13 rfl ?_
      refine PW.invV0x (pc := 14) dX8_make_14 mv_X8_43 (c_X8_has (d + 1) T hzs (by omega)) (by first | assumption | rfl) rfl rfl (Nat.le_of_ble_eq_true rfl) ?_
      refine PW.if_eq (pc := 17) (tgt := 29) dX8_make_17 (by decide) (rg_bi _) (fun c_17 => ?_) (fun c_17 => ?_)
      · exact absurd (by omega) (bi0 c_17)
      · refine PW.aload_n (pc := 20) dX8_make_20 rfl ?_
        refine PW.iload (pc := 21) dX8_make_21 rfl ?_
        refine PW.invV0x (pc := 23) dX8_make_23 mv_X8_43 (c_X8_has (d + 1) T hzs (by omega)) (by first | assumption | rfl) rfl rfl (Nat.le_of_ble_eq_true rfl) ?_
        refine PW.if_ne (pc := 26) (tgt := 31) dX8_make_26 (by decide) (rg_bi _) (fun c_26 => ?_) (fun c_26 => ?_)
        · refine PW.iconst (pc := 31) dX8_make_31 ?_
          refine PW.istore (pc := 32) dX8_make_32 (by decide) ?_
          exact loop _ 4 rfl (by omega) (by omega) (fun j q1 q2 => by omega)
        · exact absurd (by omega) (bi0 c_26)
    · omega
set_option maxRecDepth 100000 in
set_option maxHeartbeats 4000000 in
theorem c_X8_depthOf (d : Nat) {I : PIm} {h n : Nat} {tb : Int → Tm} {i : Int} (T : TermsAt Γ R h n) (TB : Tab I h (I h 5) tb) (hz : I h 5 ≤ n) (h0 : 0 ≤ i) (h1 : i < I h 5) : PC sc mX8_depthOf (d + 1) 0 0 [.inr (some h), .inl i] Γ I R (px (some (.inl (dep (tb i)))) Γ I R) := by
  obtain ⟨t0, t1, t2, t3, t4, t5, t6, t7, t8, t9, t10, t11⟩ := id T
  have hr := (TB.row h0 h1).2.2.1
  rw [← hr]
  refine PC.ofPW (by decide) (Nat.le_of_ble_eq_true rfl) ?_
  refine PW.aload_n (pc := 0) dX8_depthOf_0 rfl ?_
  refine PW.iload_n (pc := 1) dX8_depthOf_1 rfl ?_
  refine PW.invV0x (pc := 2) dX8_depthOf_2 mv_X8_43 (c_X8_has d T (by omega) (by omega)) (by first | assumption | rfl) rfl rfl (Nat.le_of_ble_eq_true rfl) ?_
  refine PW.if_eq (pc := 5) (tgt := 17) dX8_depthOf_5 (by decide) (rg_bi _) (fun c_5 => ?_) (fun c_5 => ?_)
  · exact absurd (by omega) (bi0 c_5)
  · refine PW.aload_n (pc := 8) dX8_depthOf_8 rfl ?_
    refine PW.getr (pc := 9) dX8_depthOf_9 fl_X8_27 (by first | assumption | rfl) (by first | assumption | rfl) ?_
    refine PW.iload_n (pc := 12) dX8_depthOf_12 rfl ?_
    refine PW.iald (pc := 13) dX8_depthOf_13 (by first | assumption | rfl) (by omega) (by omega) (by omega) ?_
    refine PW.goto (pc := 14) (tgt := 18) dX8_depthOf_14 (by decide) ?_
    exact PW.ireturn (pc := 18) dX8_depthOf_18 rfl (px_rfl)
set_option maxRecDepth 100000 in
set_option maxHeartbeats 4000000 in
theorem c_X8_signOf (d : Nat) {I : PIm} {x : Int} (hx : Rg x) : PC sc mX8_signOf d 0 0 [.inl x] Γ I R (px (some (.inl (if x = 4 then 102 else if x = 5 then 103 else 97 + x))) Γ I R) := by
  refine PC.ofPW (by decide) (Nat.le_of_ble_eq_true rfl) ?_
  refine PW.iload_n (pc := 0) dX8_signOf_0 rfl ?_
  refine PW.iconst (pc := 1) dX8_signOf_1 ?_
  refine PW.icmp_ne (pc := 2) (tgt := 10) dX8_signOf_2 (by decide) (by first | omega | exact rg_of _) (by first | omega | exact rg_of _) (fun c_2 => ?_) (fun c_2 => ?_)
  · refine PW.iload_n (pc := 10) dX8_signOf_10 rfl ?_
    refine PW.iconst (pc := 11) dX8_signOf_11 ?_
    refine PW.icmp_ne (pc := 12) (tgt := 20) dX8_signOf_12 (by decide) (by first | omega | exact rg_of _) (by first | omega | exact rg_of _) (fun c_12 => ?_) (fun c_12 => ?_)
    · refine PW.bipush (pc := 20) dX8_signOf_20 (by decide) ?_
      refine PW.iload_n (pc := 22) dX8_signOf_22 rfl ?_
      refine PW.iadd (pc := 23) dX8_signOf_23 ?_
      exact PW.ireturn (pc := 24) dX8_signOf_24 rfl (by first | (rw [if_pos c_2]; exact px_rfl) | (rw [if_neg c_2, if_pos c_12]; exact px_rfl) | (rw [if_neg c_2, if_neg c_12]; exact px_rfl))
    · refine PW.bipush (pc := 15) dX8_signOf_15 (by decide) ?_
      refine PW.goto (pc := 17) (tgt := 24) dX8_signOf_17 (by decide) ?_
      exact PW.ireturn (pc := 24) dX8_signOf_24 rfl (by first | (rw [if_pos c_2]; exact px_rfl) | (rw [if_neg c_2, if_pos c_12]; exact px_rfl) | (rw [if_neg c_2, if_neg c_12]; exact px_rfl))
  · refine PW.bipush (pc := 5) dX8_signOf_5 (by decide) ?_
    refine PW.goto (pc := 7) (tgt := 24) dX8_signOf_7 (by decide) ?_
    exact PW.ireturn (pc := 24) dX8_signOf_24 rfl (by first | (rw [if_pos c_2]; exact px_rfl) | (rw [if_neg c_2, if_pos c_12]; exact px_rfl) | (rw [if_neg c_2, if_neg c_12]; exact px_rfl))
end TERMS
end
section
section LETTER
variable {sc : PSc} {Γ : List PTy} {R : PRm}
/-- the k-th letter of a term; none -/
def ltr (t : Tm) (k : Int) : Int := if 0 ≤ k ∧ k < siz t then (ltrs t).getD k.toNat 0 else -9
set_option maxRecDepth 100000 in
set_option maxHeartbeats 4000000 in
theorem ltr_out {t : Tm} {k : Int} (h : ¬ (0 ≤ k ∧ k < siz t)) : ltr t k = -9 := if_neg h
set_option maxRecDepth 100000 in
set_option maxHeartbeats 4000000 in
theorem ltr_tf {t : Tm} {k : Int} (h : 0 < k) (h1 : k < siz (tf t)) : ltr (tf t) k = ltr t (k - 1) := by
  rw [siz_tf] at h1
  unfold ltr
  rw [if_pos ⟨by omega, by rw [siz_tf]; exact h1⟩, if_pos ⟨by omega, by omega⟩, ltrs_tf, show k.toNat = (k - 1).toNat + 1 by omega]
  rfl
set_option maxRecDepth 100000 in
set_option maxHeartbeats 4000000 in
theorem ltr_tg1 {a b : Tm} {k : Int} (h : 0 < k) (h1 : k - 1 < siz a) : ltr (tg a b) k = ltr a (k - 1) := by
  have := siz_pos b
  unfold ltr
  rw [if_pos ⟨by omega, by rw [siz_tg]; omega⟩, if_pos ⟨by omega, by omega⟩, ltrs_tg, show k.toNat = (k - 1).toNat + 1 by omega, List.getD_cons_succ, List.getD_eq_getElem?_getD, List.getD_eq_getElem?_getD, List.getElem?_append_left]
  unfold siz at h1
  omega
set_option maxRecDepth 100000 in
set_option maxHeartbeats 4000000 in
theorem ltr_tg2 {a b : Tm} {k : Int} (h1 : siz a ≤ k - 1) (h2 : k < siz (tg a b)) : ltr (tg a b) k = ltr b (k - 1 - siz a) := by
  have := siz_pos a
  rw [siz_tg] at h2
  unfold ltr
  rw [if_pos ⟨by omega, by rw [siz_tg]; exact h2⟩, if_pos ⟨by omega, by omega⟩, ltrs_tg, show k.toNat = (k - 1).toNat + 1 by omega, List.getD_cons_succ, List.getD_eq_getElem?_getD, List.getD_eq_getElem?_getD, List.getElem?_append_right]
  · congr 2
    unfold siz
    omega
  · unfold siz at h1
    omega
set_option maxRecDepth 100000 in
set_option maxHeartbeats 4000000 in
theorem ltr_0c {i : Int} (h : 0 ≤ i) : ltr (tc i) 0 = 97 + i := by
  unfold ltr
  rw [if_pos ⟨by omega, by rw [siz_tc]; decide⟩, ltrs_tc h]
  rfl
set_option maxRecDepth 100000 in
set_option maxHeartbeats 4000000 in
theorem ltr_0f (t : Tm) : ltr (tf t) 0 = 102 := by
  unfold ltr
  rw [if_pos ⟨by omega, by have := siz_pos (tf t); omega⟩]
  rfl
set_option maxRecDepth 100000 in
set_option maxHeartbeats 4000000 in
theorem ltr_0g (a b : Tm) : ltr (tg a b) 0 = 103 := by
  unfold ltr
  rw [if_pos ⟨by omega, by have := siz_pos (tg a b); omega⟩]
  rfl
set_option maxRecDepth 100000 in
set_option maxHeartbeats 4000000 in
theorem Tab.sign {I : PIm} {h : Nat} {sz : Int} {tb : Int → Tm} (T : Tab I h sz tb) {i : Int} (h0 : 0 ≤ i) (h1 : i < sz) : (if I (h + 1) i = 4 then 102 else if I (h + 1) i = 5 then 103 else 97 + I (h + 1) i) = ltr (tb i) 0 := by
  obtain ⟨r1, r2, -⟩ := T.row h0 h1
  by_cases hi : i < 4
  · obtain ⟨a, b, -⟩ := r1 hi
    rw [a, b, if_neg (by omega), if_neg (by omega), ltr_0c h0]
  · obtain ⟨-, q⟩ := r2 (by omega)
    rcases q with ⟨w1, -, w3⟩ | ⟨w1, w3⟩
    · rw [w1, w3, ltr_0f, if_pos rfl]
    · rw [w1, w3, ltr_0g, if_neg (by decide), if_pos rfl]
set_option maxRecDepth 100000 in
set_option maxHeartbeats 4000000 in
theorem c_X8_letterOf (d : Nat) {I : PIm} {h n : Nat} {tb : Int → Tm} {i k : Int} (T : TermsAt Γ R h n) (TB : Tab I h (I h 5) tb) (hz : I h 5 ≤ n) (h0 : 0 ≤ i) (h1 : i < I h 5) (hs : siz (tb i) ≤ 1000000) (hk : Rg k) : PC sc mX8_letterOf (d + 1) 0 0 [.inr (some h), .inl i, .inl k] Γ I R (px (some (.inl (ltr (tb i) k))) Γ I R) := by
  obtain ⟨t0, t1, t2, t3, t4, t5, t6, t7, t8, t9, t10, t11⟩ := id T
  have loop : ∀ (N : Nat) (at_ ahead level : Int), at_.toNat = N → 0 ≤ at_ → at_ < I h 5 → 0 ≤ ahead → ahead < siz (tb at_) → siz (tb at_) ≤ 1000000 → 0 ≤ level → level + at_ ≤ i → ltr (tb at_) ahead = ltr (tb i) k → PW sc mX8_letterOf (d + 1) 0 0 (px (some (.inl (ltr (tb i) k))) Γ I R) 33 [some (.inr (some h)), some (.inl i), some (.inl k), some (.inl at_), some (.inl ahead), some (.inl level)] [] Γ I R := by
    intro N
    induction N using Nat.strongRecOn with
    | _ N ih =>
      intro at_ ahead level hN a0 a1 b0 b1 b2 l0 l1 he
      have hr := TB.hd a0 a1
      by_cases hc : ahead = 0
      · subst hc
        refine PW.iload (pc := 33) dX8_letterOf_33 rfl ?_
        refine PW.aload_n (pc := 35) dX8_letterOf_35 rfl ?_
        refine PW.getr (pc := 36) dX8_letterOf_36 fl_X8_15 (by first | assumption | rfl) (by first | assumption | rfl) ?_
        refine PW.alen (pc := 39) dX8_letterOf_39 (by first | assumption | rfl) ?_
        refine PW.icmp_ge (pc := 40) (tgt := 106) dX8_letterOf_40 (by decide) (by first | omega | exact rg_of _) (by first | omega | exact rg_of _) (fun c_40 => ?_) (fun c_40 => ?_)
        · omega
        · refine PW.iload (pc := 43) dX8_letterOf_43 rfl ?_
          refine PW.if_le (pc := 45) (tgt := 106) dX8_letterOf_45 (by decide) (by first | omega | exact rg_of _) (fun c_45 => ?_) (fun c_45 => ?_)
          · refine PW.aload_n (pc := 106) dX8_letterOf_106 rfl ?_
            refine PW.getr (pc := 107) dX8_letterOf_107 fl_X8_15 (by first | assumption | rfl) (by first | assumption | rfl) ?_
            refine PW.iload_n (pc := 110) dX8_letterOf_110 rfl ?_
            refine PW.iald (pc := 111) dX8_letterOf_111 (by first | assumption | rfl) (by omega) (by omega) (by omega) ?_
            refine PW.invS0x (pc := 112) dX8_letterOf_112 ms_X8_51 (c_X8_signOf d (by omega)) rfl rfl (Nat.le_of_ble_eq_true rfl) ?_
            exact PW.ireturn (pc := 115) dX8_letterOf_115 rfl (by rw [← he, ← TB.sign a0 a1]; exact px_rfl)
          · omega
      · obtain ⟨r1, r2, -⟩ := TB.row a0 a1
        have h4 : 4 ≤ at_ := by
          by_cases q : at_ < 4
          · rw [(r1 q).2.1, siz_tc] at b1
            omega
          · omega
        obtain ⟨⟨q1, q2, q3, q4⟩, q⟩ := r2 h4
        have sl : I (h + 5) (I (h + 2) at_) = siz (tb (I (h + 2) at_)) := (TB.row q1 (by omega)).2.2.2.1
        have sp := siz_pos (tb (I (h + 2) at_))
        have sq := siz_pos (tb (I (h + 3) at_))
        by_cases hw : I (h + 1) at_ = 4
        · obtain ⟨w1, w2, w3⟩ : I (h + 1) at_ = 4 ∧ I (h + 3) at_ = I (h + 2) at_ ∧ tb at_ = tf (tb (I (h + 2) at_)) := by
            rcases q with w | w
            · exact w
            · omega
          have es : siz (tb at_) = 1 + siz (tb (I (h + 2) at_)) := by rw [w3, siz_tf]
          have el : ltr (tb (I (h + 2) at_)) (ahead - 1) = ltr (tb i) k := by rw [← he, w3, ltr_tf (by omega) (by rw [← w3]; exact b1)]
          refine PW.iload (pc := 33) dX8_letterOf_33 rfl ?_
          refine PW.aload_n (pc := 35) dX8_letterOf_35 rfl ?_
          refine PW.getr (pc := 36) dX8_letterOf_36 fl_X8_15 (by first | assumption | rfl) (by first | assumption | rfl) ?_
          refine PW.alen (pc := 39) dX8_letterOf_39 (by first | assumption | rfl) ?_
          refine PW.icmp_ge (pc := 40) (tgt := 106) dX8_letterOf_40 (by decide) (by first | omega | exact rg_of _) (by first | omega | exact rg_of _) (fun c_40 => ?_) (fun c_40 => ?_)
          · omega
          · refine PW.iload (pc := 43) dX8_letterOf_43 rfl ?_
            refine PW.if_le (pc := 45) (tgt := 106) dX8_letterOf_45 (by decide) (by first | omega | exact rg_of _) (fun c_45 => ?_) (fun c_45 => ?_)
            · omega
            · refine PW.iinc (pc := 48) dX8_letterOf_48 rfl (by decide) ?_
              refine PW.iload (pc := 51) dX8_letterOf_51 rfl ?_
              refine PW.aload_n (pc := 53) dX8_letterOf_53 rfl ?_
              refine PW.getr (pc := 54) dX8_letterOf_54 fl_X8_30 (by first | assumption | rfl) (by first | assumption | rfl) ?_
              refine PW.aload_n (pc := 57) dX8_letterOf_57 rfl ?_
              refine PW.getr (pc := 58) dX8_letterOf_58 fl_X8_21 (by first | assumption | rfl) (by first | assumption | rfl) ?_
              refine PW.iload_n (pc := 61) dX8_letterOf_61 rfl ?_
              refine PW.iald (pc := 62) dX8_letterOf_62 (by first | assumption | rfl) (by omega) (by omega) (by omega) ?_
              refine PW.iald (pc := 63) dX8_letterOf_63 (by first | assumption | rfl) (by omega) (by omega) (by omega) ?_
              rw [sl]
              refine PW.icmp_ge (pc := 64) (tgt := 77) dX8_letterOf_64 (by decide) (by first | omega | exact rg_of _) (by first | omega | exact rg_of _) (fun c_64 => ?_) (fun c_64 => ?_)
              · omega
              · refine PW.aload_n (pc := 67) dX8_letterOf_67 rfl ?_
                refine PW.getr (pc := 68) dX8_letterOf_68 fl_X8_21 (by first | assumption | rfl) (by first | assumption | rfl) ?_
                refine PW.iload_n (pc := 71) dX8_letterOf_71 rfl ?_
                refine PW.iald (pc := 72) dX8_letterOf_72 (by first | assumption | rfl) (by omega) (by omega) (by omega) ?_
                refine PW.istore_n (pc := 73) dX8_letterOf_73 (by decide) ?_
                refine PW.goto (pc := 74) (tgt := 100) dX8_letterOf_74 (by decide) ?_
                refine PW.iinc (pc := 100) dX8_letterOf_100 rfl (by decide) ?_
                refine PW.goto (pc := 103) (tgt := 33) dX8_letterOf_103 (by decide) ?_
                exact ih _ (by omega) _ _ (level + 1) rfl q1 (by omega) (by omega) (by omega) (by omega) (by omega) (by omega) el
        · obtain ⟨w1, w3⟩ : I (h + 1) at_ = 5 ∧ tb at_ = tg (tb (I (h + 2) at_)) (tb (I (h + 3) at_)) := by
            rcases q with w | w
            · omega
            · exact w
          have es : siz (tb at_) = 1 + siz (tb (I (h + 2) at_)) + siz (tb (I (h + 3) at_)) := by rw [w3, siz_tg]
          refine PW.iload (pc := 33) dX8_letterOf_33 rfl ?_
          refine PW.aload_n (pc := 35) dX8_letterOf_35 rfl ?_
          refine PW.getr (pc := 36) dX8_letterOf_36 fl_X8_15 (by first | assumption | rfl) (by first | assumption | rfl) ?_
          refine PW.alen (pc := 39) dX8_letterOf_39 (by first | assumption | rfl) ?_
          refine PW.icmp_ge (pc := 40) (tgt := 106) dX8_letterOf_40 (by decide) (by first | omega | exact rg_of _) (by first | omega | exact rg_of _) (fun c_40 => ?_) (fun c_40 => ?_)
          · omega
          · refine PW.iload (pc := 43) dX8_letterOf_43 rfl ?_
            refine PW.if_le (pc := 45) (tgt := 106) dX8_letterOf_45 (by decide) (by first | omega | exact rg_of _) (fun c_45 => ?_) (fun c_45 => ?_)
            · omega
            · refine PW.iinc (pc := 48) dX8_letterOf_48 rfl (by decide) ?_
              refine PW.iload (pc := 51) dX8_letterOf_51 rfl ?_
              refine PW.aload_n (pc := 53) dX8_letterOf_53 rfl ?_
              refine PW.getr (pc := 54) dX8_letterOf_54 fl_X8_30 (by first | assumption | rfl) (by first | assumption | rfl) ?_
              refine PW.aload_n (pc := 57) dX8_letterOf_57 rfl ?_
              refine PW.getr (pc := 58) dX8_letterOf_58 fl_X8_21 (by first | assumption | rfl) (by first | assumption | rfl) ?_
              refine PW.iload_n (pc := 61) dX8_letterOf_61 rfl ?_
              refine PW.iald (pc := 62) dX8_letterOf_62 (by first | assumption | rfl) (by omega) (by omega) (by omega) ?_
              refine PW.iald (pc := 63) dX8_letterOf_63 (by first | assumption | rfl) (by omega) (by omega) (by omega) ?_
              rw [sl]
              refine PW.icmp_ge (pc := 64) (tgt := 77) dX8_letterOf_64 (by decide) (by first | omega | exact rg_of _) (by first | omega | exact rg_of _) (fun c_64 => ?_) (fun c_64 => ?_)
              · refine PW.iload (pc := 77) dX8_letterOf_77 rfl ?_
                refine PW.aload_n (pc := 79) dX8_letterOf_79 rfl ?_
                refine PW.getr (pc := 80) dX8_letterOf_80 fl_X8_30 (by first | assumption | rfl) (by first | assumption | rfl) ?_
                refine PW.aload_n (pc := 83) dX8_letterOf_83 rfl ?_
                refine PW.getr (pc := 84) dX8_letterOf_84 fl_X8_21 (by first | assumption | rfl) (by first | assumption | rfl) ?_
                refine PW.iload_n (pc := 87) dX8_letterOf_87 rfl ?_
                refine PW.iald (pc := 88) dX8_letterOf_88 (by first | assumption | rfl) (by omega) (by omega) (by omega) ?_
                refine PW.iald (pc := 89) dX8_letterOf_89 (by first | assumption | rfl) (by omega) (by omega) (by omega) ?_
                rw [sl]
                refine PW.isub (pc := 90) dX8_letterOf_90 ?_
                refine PW.istore (pc := 91) dX8_letterOf_91 (by decide) ?_
                refine PW.aload_n (pc := 93) dX8_letterOf_93 rfl ?_
                refine PW.getr (pc := 94) dX8_letterOf_94 fl_X8_24 (by first | assumption | rfl) (by first | assumption | rfl) ?_
                refine PW.iload_n (pc := 97) dX8_letterOf_97 rfl ?_
                refine PW.iald (pc := 98) dX8_letterOf_98 (by first | assumption | rfl) (by omega) (by omega) (by omega) ?_
                refine PW.istore_n (pc := 99) dX8_letterOf_99 (by decide) ?_
                refine PW.iinc (pc := 100) dX8_letterOf_100 rfl (by decide) ?_
                refine PW.goto (pc := 103) (tgt := 33) dX8_letterOf_103 (by decide) ?_
                first | exact ih _ (by omega) _ _ (level + 1) rfl q1 (by omega) (by omega) (by omega) (by omega) (by omega) (by omega) (by rw [← he, w3, ltr_tg1 (by omega) (by omega)]; rfl) | exact ih _ (by omega) _ _ (level + 1) rfl q3 (by omega) (by omega) (by omega) (by omega) (by omega) (by omega) (by rw [← he, w3, ltr_tg2 (by omega) (by rw [← w3]; exact b1)]; rfl)
              · refine PW.aload_n (pc := 67) dX8_letterOf_67 rfl ?_
                refine PW.getr (pc := 68) dX8_letterOf_68 fl_X8_21 (by first | assumption | rfl) (by first | assumption | rfl) ?_
                refine PW.iload_n (pc := 71) dX8_letterOf_71 rfl ?_
                refine PW.iald (pc := 72) dX8_letterOf_72 (by first | assumption | rfl) (by omega) (by omega) (by omega) ?_
                refine PW.istore_n (pc := 73) dX8_letterOf_73 (by decide) ?_
                refine PW.goto (pc := 74) (tgt := 100) dX8_letterOf_74 (by decide) ?_
                refine PW.iinc (pc := 100) dX8_letterOf_100 rfl (by decide) ?_
                refine PW.goto (pc := 103) (tgt := 33) dX8_letterOf_103 (by decide) ?_
                first | exact ih _ (by omega) _ _ (level + 1) rfl q1 (by omega) (by omega) (by omega) (by omega) (by omega) (by omega) (by rw [← he, w3, ltr_tg1 (by omega) (by omega)]; rfl) | exact ih _ (by omega) _ _ (level + 1) rfl q3 (by omega) (by omega) (by omega) (by omega) (by omega) (by omega) (by rw [← he, w3, ltr_tg2 (by omega) (by rw [← w3]; exact b1)]; rfl)
  have si : I (h + 5) i = siz (tb i) := (TB.row h0 h1).2.2.2.1
  have sp := siz_pos (tb i)
  refine PC.ofPW (by decide) (Nat.le_of_ble_eq_true rfl) ?_
  refine PW.aload_n (pc := 0) dX8_letterOf_0 rfl ?_
  refine PW.iload_n (pc := 1) dX8_letterOf_1 rfl ?_
  refine PW.invV0x (pc := 2) dX8_letterOf_2 mv_X8_43 (c_X8_has d T (by omega) (by omega)) (by first | assumption | rfl) rfl rfl (Nat.le_of_ble_eq_true rfl) ?_
  refine PW.if_eq (pc := 5) (tgt := 22) dX8_letterOf_5 (by decide) (rg_bi _) (fun c_5 => ?_) (fun c_5 => ?_)
  · exact absurd (by omega) (bi0 c_5)
  · refine PW.iload_n (pc := 8) dX8_letterOf_8 rfl ?_
    refine PW.if_lt (pc := 9) (tgt := 22) dX8_letterOf_9 (by decide) (by first | omega | exact rg_of _) (fun c_9 => ?_) (fun c_9 => ?_)
    · refine PW.bipush (pc := 22) dX8_letterOf_22 (by decide) ?_
      exact PW.ireturn (pc := 24) dX8_letterOf_24 rfl (by rw [ltr_out (by omega)]; exact px_rfl)
    · refine PW.iload_n (pc := 12) dX8_letterOf_12 rfl ?_
      refine PW.aload_n (pc := 13) dX8_letterOf_13 rfl ?_
      refine PW.getr (pc := 14) dX8_letterOf_14 fl_X8_30 (by first | assumption | rfl) (by first | assumption | rfl) ?_
      refine PW.iload_n (pc := 17) dX8_letterOf_17 rfl ?_
      refine PW.iald (pc := 18) dX8_letterOf_18 (by first | assumption | rfl) (by omega) (by omega) (by omega) ?_
      rw [si]
      refine PW.icmp_lt (pc := 19) (tgt := 25) dX8_letterOf_19 (by decide) (by first | omega | exact rg_of _) (by first | omega | exact rg_of _) (fun c_19 => ?_) (fun c_19 => ?_)
      · refine PW.iload_n (pc := 25) dX8_letterOf_25 rfl ?_
        refine PW.istore_n (pc := 26) dX8_letterOf_26 (by decide) ?_
        refine PW.iload_n (pc := 27) dX8_letterOf_27 rfl ?_
        refine PW.istore (pc := 28) dX8_letterOf_28 (by decide) ?_
        refine PW.iconst (pc := 30) dX8_letterOf_30 ?_
        refine PW.istore (pc := 31) dX8_letterOf_31 (by decide) ?_
        exact loop _ i k 0 rfl h0 h1 (by omega) (by omega) hs (by omega) (by omega) rfl
      · refine PW.bipush (pc := 22) dX8_letterOf_22 (by decide) ?_
        exact PW.ireturn (pc := 24) dX8_letterOf_24 rfl (by rw [ltr_out (by omega)]; exact px_rfl)
end LETTER
end
section
section PROG
/-! PROGRAMS: instructions as codes 64 kind + 16 D + 4 S + T; what they make, PLAIN and PIPED; STEPS -/
def kd (c : Int) : Int := c / 64
def dd (c : Int) : Int := c / 16 % 4
def ss (c : Int) : Int := c / 4 % 4
def tt (c : Int) : Int := c % 4
abbrev okc (c : Int) : Prop := 0 ≤ c ∧ c < 192
set_option maxRecDepth 100000 in
set_option maxHeartbeats 4000000 in
theorem kd_rg {c : Int} (h : okc c) : 0 ≤ kd c ∧ kd c ≤ 2 := by unfold kd; omega
set_option maxRecDepth 100000 in
set_option maxHeartbeats 4000000 in
theorem dd_rg (c : Int) : 0 ≤ dd c ∧ dd c < 4 := by unfold dd; omega
set_option maxRecDepth 100000 in
set_option maxHeartbeats 4000000 in
theorem ss_rg (c : Int) : 0 ≤ ss c ∧ ss c < 4 := by unfold ss; omega
set_option maxRecDepth 100000 in
set_option maxHeartbeats 4000000 in
theorem tt_rg (c : Int) : 0 ≤ tt c ∧ tt c < 4 := by unfold tt; omega
def mkT (k : Int) (a b : Tm) : Tm := if k = 1 then tf a else tg a b
abbrev mks (P : Int → Int) (k r : Int) : Prop := kd (P k) ≠ 0 ∧ dd (P k) = r
def lat (P : Int → Int) : Nat → Int → Int
  | 0, _ => -1
  | k + 1, r => if mks P (k : Int) r then (k : Int) else lat P k r
def rdT (P : Int → Int) (M : Int → Tm) (V : Int → Bool) : Nat → Int → Tm
  | 0, r => tc r
  | k + 1, r => if mks P (k : Int) r ∧ V (k : Int) = true then M (k : Int) else rdT P M V k r
def mdF (P : Int → Int) (V : Int → Int → Bool) : Nat → Int → Tm
  | 0, _ => tc 0
  | k + 1, j => if j = (k : Int) then mkT (kd (P (k : Int))) (rdT P (mdF P V k) (V (k : Int)) k (ss (P (k : Int)))) (rdT P (mdF P V k) (V (k : Int)) k (tt (P (k : Int)))) else mdF P V k j
def Md (P : Int → Int) (V : Int → Int → Bool) (j : Int) : Tm := mdF P V (j.toNat + 1) j
set_option maxRecDepth 100000 in
set_option maxHeartbeats 4000000 in
theorem lat_rg (P : Int → Int) : ∀ (k : Nat) (r : Int), -1 ≤ lat P k r ∧ lat P k r < k
  | 0, r => by unfold lat; omega
  | k + 1, r => by
    unfold lat
    have := lat_rg P k r
    split <;> omega
set_option maxRecDepth 100000 in
set_option maxHeartbeats 4000000 in
theorem lat_mks (P : Int → Int) : ∀ (k : Nat) (r : Int), 0 ≤ lat P k r → mks P (lat P k r) r
  | 0, r => by unfold lat; omega
  | k + 1, r => by
    unfold lat
    split
    · intro _; assumption
    · exact lat_mks P k r
set_option maxRecDepth 100000 in
set_option maxHeartbeats 4000000 in
theorem rdT_congr {P : Int → Int} {M M' : Int → Tm} {V V' : Int → Bool} : ∀ (k : Nat) (r : Int), (∀ j : Int, 0 ≤ j → j < k → M j = M' j) → (∀ j : Int, 0 ≤ j → j < k → V j = V' j) → rdT P M V k r = rdT P M' V' k r
  | 0, r, _, _ => rfl
  | k + 1, r, hM, hV => by
    unfold rdT
    rw [hM k (by omega) (by omega), hV k (by omega) (by omega), rdT_congr k r (fun j h0 h1 => hM j h0 (by omega)) (fun j h0 h1 => hV j h0 (by omega))]
set_option maxRecDepth 100000 in
set_option maxHeartbeats 4000000 in
/-- reading all: the latest maker's -/
theorem rdT_lat {P : Int → Int} {M : Int → Tm} : ∀ (k : Nat) (r : Int), rdT P M (fun _ => true) k r = if lat P k r < 0 then tc r else M (lat P k r)
  | 0, r => by unfold rdT lat; rfl
  | k + 1, r => by
    unfold rdT lat
    by_cases h : mks P (k : Int) r
    · rw [if_pos ⟨h, rfl⟩, if_pos h, if_neg (by omega)]
    · rw [if_neg (fun q => h q.1), if_neg h, rdT_lat k r]
set_option maxRecDepth 100000 in
set_option maxHeartbeats 4000000 in
theorem mdF_eq (P : Int → Int) (V : Int → Int → Bool) : ∀ (n : Nat) (j : Int), 0 ≤ j → j < n → mdF P V n j = Md P V j
  | 0, j, h0, h1 => by omega
  | n + 1, j, h0, h1 => by
    by_cases h : j = (n : Int)
    · unfold Md
      rw [show j.toNat + 1 = n + 1 by omega]
    · have : mdF P V (n + 1) j = mdF P V n j := by
        rw [mdF, if_neg h]
      rw [this, mdF_eq P V n j h0 (by omega)]
set_option maxRecDepth 100000 in
set_option maxHeartbeats 4000000 in
theorem Md_eq (P : Int → Int) (V : Int → Int → Bool) (k : Nat) : Md P V (k : Int) = mkT (kd (P (k : Int))) (rdT P (Md P V) (V (k : Int)) k (ss (P (k : Int)))) (rdT P (Md P V) (V (k : Int)) k (tt (P (k : Int)))) := by
  have h : Md P V (k : Int) = mdF P V (k + 1) (k : Int) := by unfold Md; rw [show ((k : Int)).toNat + 1 = k + 1 by omega]
  rw [h, mdF, if_pos rfl, rdT_congr (M' := Md P V) (V' := V (k : Int)) k (ss (P k)) (fun j h0 h1 => mdF_eq P V k j h0 h1) (fun _ _ _ => rfl), rdT_congr (M' := Md P V) (V' := V (k : Int)) k (tt (P k)) (fun j h0 h1 => mdF_eq P V k j h0 h1) (fun _ _ _ => rfl)]
/-! steps -/
abbrev hit (P S : Int → Int) (lag fw : Int) (k : Nat) (x r : Int) : Prop := lat P k r < 0 ∨ vis lag fw (x - S (lat P k r))
abbrev rdy (P S : Int → Int) (lag fw : Int) (k : Nat) (x : Int) : Prop := (kd (P (k : Int)) < 1 ∨ hit P S lag fw k x (ss (P (k : Int)))) ∧ (kd (P (k : Int)) < 2 ∨ hit P S lag fw k x (tt (P (k : Int))))
def wt (P S : Int → Int) (lag fw : Int) (k : Nat) (f : Int) : Int := if rdy P S lag fw k f then 0 else if rdy P S lag fw k (f + 1) then 1 else if rdy P S lag fw k (f + 2) then 2 else 3
def fre (S : Int → Int) (k : Nat) : Int := if k = 0 then 0 else S ((k : Int) - 1) + 1
def stF (P : Int → Int) (lag fw w : Int) : Nat → Int → Int
  | 0, _ => 0
  | k + 1, j => if j = (k : Int) then (if w = 1 then fre (stF P lag fw w k) k + wt P (stF P lag fw w k) lag fw k (fre (stF P lag fw w k) k) else fre (stF P lag fw w k) k) else stF P lag fw w k j
def St (P : Int → Int) (lag fw w : Int) (j : Int) : Int := stF P lag fw w (j.toNat + 1) j
set_option maxRecDepth 100000 in
set_option maxHeartbeats 4000000 in
theorem stF_eq (P : Int → Int) (lag fw w : Int) : ∀ (n : Nat) (j : Int), 0 ≤ j → j < n → stF P lag fw w n j = St P lag fw w j
  | 0, j, h0, h1 => by omega
  | n + 1, j, h0, h1 => by
    by_cases h : j = (n : Int)
    · unfold St
      rw [show j.toNat + 1 = n + 1 by omega]
    · have : stF P lag fw w (n + 1) j = stF P lag fw w n j := by
        rw [stF, if_neg h]
      rw [this, stF_eq P lag fw w n j h0 (by omega)]
set_option maxRecDepth 100000 in
set_option maxHeartbeats 4000000 in
theorem hit_congr {P S S' : Int → Int} {lag fw : Int} {k : Nat} (h : ∀ j : Int, 0 ≤ j → j < k → S j = S' j) (x r : Int) : hit P S lag fw k x r ↔ hit P S' lag fw k x r := by
  have := lat_rg P k r
  by_cases q : lat P k r < 0
  · exact ⟨fun _ => Or.inl q, fun _ => Or.inl q⟩
  · unfold hit
    rw [h (lat P k r) (by omega) (by omega)]
set_option maxRecDepth 100000 in
set_option maxHeartbeats 4000000 in
theorem rdy_congr {P S S' : Int → Int} {lag fw : Int} {k : Nat} (h : ∀ j : Int, 0 ≤ j → j < k → S j = S' j) (x : Int) : rdy P S lag fw k x ↔ rdy P S' lag fw k x := by
  unfold rdy
  rw [hit_congr h, hit_congr h]
set_option maxRecDepth 100000 in
set_option maxHeartbeats 4000000 in
theorem wt_congr {P S S' : Int → Int} {lag fw : Int} {k : Nat} (h : ∀ j : Int, 0 ≤ j → j < k → S j = S' j) (f : Int) : wt P S lag fw k f = wt P S' lag fw k f := by
  unfold wt
  simp only [rdy_congr h]
set_option maxRecDepth 100000 in
set_option maxHeartbeats 4000000 in
theorem fre_congr {S S' : Int → Int} {k : Nat} (h : ∀ j : Int, 0 ≤ j → j < k → S j = S' j) : fre S k = fre S' k := by
  unfold fre
  split
  · rfl
  · rw [h _ (by omega) (by omega)]
set_option maxRecDepth 100000 in
set_option maxHeartbeats 4000000 in
theorem St_eq (P : Int → Int) (lag fw w : Int) (k : Nat) : St P lag fw w (k : Int) = if w = 1 then fre (St P lag fw w) k + wt P (St P lag fw w) lag fw k (fre (St P lag fw w) k) else fre (St P lag fw w) k := by
  have h : St P lag fw w (k : Int) = stF P lag fw w (k + 1) (k : Int) := by unfold St; rw [show ((k : Int)).toNat + 1 = k + 1 by omega]
  have hc : ∀ j : Int, 0 ≤ j → j < k → stF P lag fw w k j = St P lag fw w j := fun j h0 h1 => stF_eq P lag fw w k j h0 h1
  rw [h, stF, if_pos rfl, fre_congr hc, wt_congr hc]
set_option maxRecDepth 100000 in
set_option maxHeartbeats 4000000 in
theorem wt_rg (P S : Int → Int) (lag fw : Int) (k : Nat) (f : Int) : 0 ≤ wt P S lag fw k f ∧ wt P S lag fw k f ≤ 3 := by
  unfold wt
  split
  · omega
  · split
    · omega
    · split <;> omega
set_option maxRecDepth 100000 in
set_option maxHeartbeats 4000000 in
theorem St_step (P : Int → Int) (lag fw w : Int) (k : Nat) : fre (St P lag fw w) k ≤ St P lag fw w (k : Int) ∧ St P lag fw w (k : Int) ≤ fre (St P lag fw w) k + 3 := by
  rw [St_eq]
  have := wt_rg P (St P lag fw w) lag fw k (fre (St P lag fw w) k)
  split <;> omega
set_option maxRecDepth 100000 in
set_option maxHeartbeats 4000000 in
theorem St_rg (P : Int → Int) (lag fw w : Int) : ∀ k : Nat, (k : Int) ≤ St P lag fw w (k : Int) ∧ St P lag fw w (k : Int) ≤ 4 * (k : Int) + 3
  | 0 => by
    have := St_step P lag fw w 0
    unfold fre at this
    simp only [if_true] at this
    omega
  | k + 1 => by
    have h := St_step P lag fw w (k + 1)
    have h2 := St_rg P lag fw w k
    unfold fre at h
    rw [if_neg (by omega), show ((k + 1 : Nat) : Int) - 1 = (k : Int) by omega] at h
    omega
set_option maxRecDepth 100000 in
set_option maxHeartbeats 4000000 in
theorem St_mono (P : Int → Int) (lag fw w : Int) (j : Nat) : ∀ i : Nat, St P lag fw w (j : Int) + (i : Int) ≤ St P lag fw w ((j + i : Nat) : Int)
  | 0 => by simp
  | i + 1 => by
    have h := St_step P lag fw w (j + i + 1)
    have h2 := St_mono P lag fw w j i
    unfold fre at h
    rw [if_neg (by omega), show ((j + i + 1 : Nat) : Int) - 1 = ((j + i : Nat) : Int) by omega] at h
    rw [show (j + (i + 1) : Nat) = j + i + 1 by omega]
    omega
set_option maxRecDepth 100000 in
set_option maxHeartbeats 4000000 in
theorem St_lt (P : Int → Int) (lag fw w : Int) {j k : Int} (h0 : 0 ≤ j) (h1 : j ≤ k) : St P lag fw w j + (k - j) ≤ St P lag fw w k := by
  have := St_mono P lag fw w j.toNat (k - j).toNat
  rw [show ((j.toNat : Nat) : Int) = j by omega, show ((j.toNat + (k - j).toNat : Nat) : Int) = k by omega] at this
  omega
set_option maxRecDepth 100000 in
set_option maxHeartbeats 4000000 in
theorem St_rg' (P : Int → Int) (lag fw w : Int) {k : Int} (h0 : 0 ≤ k) : k ≤ St P lag fw w k ∧ St P lag fw w k ≤ 4 * k + 3 := by
  have := St_rg P lag fw w k.toNat
  rw [show ((k.toNat : Nat) : Int) = k by omega] at this
  exact this
set_option maxRecDepth 100000 in
set_option maxHeartbeats 4000000 in
theorem fre_rg (P : Int → Int) (lag fw w : Int) (k : Nat) : 0 ≤ fre (St P lag fw w) k ∧ fre (St P lag fw w) k ≤ 4 * (k : Int) := by
  unfold fre
  split
  · omega
  · have := St_rg' P lag fw w (k := (k : Int) - 1) (by omega)
    omega
set_option maxRecDepth 100000 in
set_option maxHeartbeats 4000000 in
/-- three waits are enough -/
theorem rdy_3 (P : Int → Int) {lag fw w : Int} (hl : lag ≤ 3) (k : Nat) : rdy P (St P lag fw w) lag fw k (fre (St P lag fw w) k + 3) := by
  have key : ∀ r : Int, hit P (St P lag fw w) lag fw k (fre (St P lag fw w) k + 3) r := by
    intro r
    have h1 := lat_rg P k r
    by_cases q : lat P k r < 0
    · exact Or.inl q
    · refine Or.inr (Or.inl ?_)
      have h2 := St_lt P lag fw w (j := lat P k r) (k := (k : Int) - 1) (by omega) (by omega)
      unfold fre
      rw [if_neg (by omega)]
      omega
  exact ⟨Or.inr (key _), Or.inr (key _)⟩
/-! what registers have at last -/
def Vt (_ _ : Int) : Bool := true
def Vp (P : Int → Int) (lag fw w : Int) (k j : Int) : Bool := decide (vis lag fw (St P lag fw w k - St P lag fw w j))
def plM (P : Int → Int) : Int → Tm := Md P Vt
def piM (P : Int → Int) (lag fw w : Int) : Int → Tm := Md P (Vp P lag fw w)
def plT (P : Int → Int) (n : Nat) (r : Int) : Tm := rdT P (plM P) (fun _ => true) n r
def piT (P : Int → Int) (lag fw w : Int) (n : Nat) (r : Int) : Tm := rdT P (piM P lag fw w) (fun _ => true) n r
def bsum (f : Int → Bool) : Nat → Int
  | 0 => 0
  | k + 1 => bsum f k + (if f (k : Int) = true then 2 ^ k else 0)
set_option maxRecDepth 100000 in
set_option maxHeartbeats 4000000 in
theorem bsum_rg (f : Int → Bool) : ∀ k : Nat, 0 ≤ bsum f k ∧ bsum f k < 2 ^ k
  | 0 => by unfold bsum; decide
  | k + 1 => by
    have h := bsum_rg f k
    have e : (2 : Int) ^ (k + 1) = 2 ^ k * 2 := Int.pow_succ 2 k
    unfold bsum
    split <;> omega
set_option maxRecDepth 100000 in
set_option maxHeartbeats 4000000 in
theorem bsum_congr {f g : Int → Bool} : ∀ k : Nat, (∀ j : Int, 0 ≤ j → j < k → f j = g j) → bsum f k = bsum g k
  | 0, _ => rfl
  | k + 1, h => by
    unfold bsum
    rw [h k (by omega) (by omega), bsum_congr k (fun j h0 h1 => h j h0 (by omega))]
set_option maxRecDepth 100000 in
set_option maxHeartbeats 4000000 in
theorem or_bitd : ∀ r : Fin 8, ∀ b : Fin 128, b.val < 2 ^ r.val → pw_or (b.val : Int) (pw_shl 1 (r.val : Int)) = (b.val : Int) + 2 ^ r.val := by decide +kernel
set_option maxRecDepth 100000 in
set_option maxHeartbeats 4000000 in
theorem or_bit {r : Nat} {b : Int} (hr : r < 8) (h0 : 0 ≤ b) (h1 : b < 2 ^ r) : pw_or b (pw_shl 1 (r : Int)) = b + 2 ^ r := by
  have hp : 2 ^ r ≤ 2 ^ 7 := Nat.pow_le_pow_right (by decide) (by omega)
  have e0 : ((2 ^ r : Nat) : Int) = (2 : Int) ^ r := by simp
  have hb : b.toNat < 128 := by
    have : 2 ^ 7 = 128 := by decide
    omega
  have := or_bitd ⟨r, hr⟩ ⟨b.toNat, hb⟩ (by
    show b.toNat < 2 ^ r
    have e : ((2 ^ r : Nat) : Int) = (2 : Int) ^ r := by simp
    omega)
  simpa [Int.toNat_of_nonneg h0] using this
set_option maxRecDepth 100000 in
set_option maxHeartbeats 4000000 in
theorem or_bsum (f : Int → Bool) {k : Nat} (hk : k < 8) : (if f (k : Int) = true then pw_or (bsum f k) (pw_shl 1 (k : Int)) else bsum f k) = bsum f (k + 1) := by
  have h := bsum_rg f k
  rw [bsum]
  split
  · rw [or_bit hk h.1 h.2]
  · omega
noncomputable def dif (P : Int → Int) (lag fw w : Int) (n : Nat) : Int := bsum (fun r => @decide (plT P n r ≠ piT P lag fw w n r) (Classical.propDecidable _)) 4
end PROG
end
section
section FLOW
variable {sc : PSc} {Γ : List PTy} {R : PRm}
set_option maxRecDepth 100000 in
set_option maxHeartbeats 4000000 in
theorem c_kd (d : Nat) {I : PIm} {c : Int} (h : okc c) : PC sc mX5_kindOf d 0 0 [.inl c] Γ I R (px (some (.inl (kd c))) Γ I R) := by
  have := c_X5_kindOf (sc := sc) (Γ := Γ) (I := I) (R := R) d (c := c)
  rwa [(code_of h.1 (by omega)).1] at this
set_option maxRecDepth 100000 in
set_option maxHeartbeats 4000000 in
theorem c_dd (d : Nat) {I : PIm} {c : Int} (h : okc c) : PC sc mX5_targetOf d 0 0 [.inl c] Γ I R (px (some (.inl (dd c))) Γ I R) := by
  have := c_X5_targetOf (sc := sc) (Γ := Γ) (I := I) (R := R) d (c := c)
  rwa [(code_of h.1 (by omega)).2.1] at this
set_option maxRecDepth 100000 in
set_option maxHeartbeats 4000000 in
theorem c_ss (d : Nat) {I : PIm} {c : Int} (h : okc c) : PC sc mX5_firstOf d 0 0 [.inl c] Γ I R (px (some (.inl (ss c))) Γ I R) := by
  have := c_X5_firstOf (sc := sc) (Γ := Γ) (I := I) (R := R) d (c := c)
  rwa [(code_of h.1 (by omega)).2.2.1] at this
set_option maxRecDepth 100000 in
set_option maxHeartbeats 4000000 in
theorem c_tt (d : Nat) {I : PIm} {c : Int} (h : okc c) : PC sc mX5_secondOf d 0 0 [.inl c] Γ I R (px (some (.inl (tt c))) Γ I R) := by
  have := c_X5_secondOf (sc := sc) (Γ := Γ) (I := I) (R := R) d (c := c)
  rwa [(code_of h.1 (by omega)).2.2.2] at this
set_option maxRecDepth 100000 in
set_option maxHeartbeats 4000000 in
theorem c_X2_headOf (d : Nat) {I : PIm} {c : Int} (h : Rg c) : PC sc mX2_headOf d 0 0 [.inl c] Γ I R (px (some (.inl (if c = 1 then 4 else 5))) Γ I R) := by
  refine PC.ofPW (by decide) (Nat.le_of_ble_eq_true rfl) ?_
  refine PW.iload_n (pc := 0) dX2_headOf_0 rfl ?_
  refine PW.iconst (pc := 1) dX2_headOf_1 ?_
  refine PW.icmp_ne (pc := 2) (tgt := 9) dX2_headOf_2 (by decide) (by first | omega | exact rg_of _) (by first | omega | exact rg_of _) (fun c_2 => ?_) (fun c_2 => ?_)
  · refine PW.iconst (pc := 9) dX2_headOf_9 ?_
    exact PW.ireturn (pc := 10) dX2_headOf_10 rfl (by first | (rw [if_pos c_2]; exact px_rfl) | (rw [if_neg c_2]; exact px_rfl))
  · refine PW.iconst (pc := 5) dX2_headOf_5 ?_
    refine PW.goto (pc := 6) (tgt := 10) dX2_headOf_6 (by decide) ?_
    exact PW.ireturn (pc := 10) dX2_headOf_10 rfl (by first | (rw [if_pos c_2]; exact px_rfl) | (rw [if_neg c_2]; exact px_rfl))
/-! Flow: 0 plain, 1 piped, 2 makers, 3 steps, 4 targets, 5 made -/
def FlowAt (Γ : List PTy) (R : PRm) (f : Nat) : Prop := Γ[f]? = some (.inl 2) ∧ R f 0 = some (f + 1) ∧ R f 1 = some (f + 2) ∧ R f 2 = some (f + 3) ∧ R f 3 = some (f + 4) ∧ R f 4 = some (f + 5) ∧ R f 5 = some (f + 6) ∧ Γ[f + 1]? = some (.inr (0, 4)) ∧ Γ[f + 2]? = some (.inr (0, 4)) ∧ Γ[f + 3]? = some (.inr (0, 4)) ∧ Γ[f + 4]? = some (.inr (0, 6)) ∧ Γ[f + 5]? = some (.inr (0, 6)) ∧ Γ[f + 6]? = some (.inr (0, 6))
def ProgOK (I : PIm) (p : Nat) (P : Int → Int) (n : Nat) : Prop := I p 1 = n ∧ n ≤ 6 ∧ ∀ k : Int, 0 ≤ k → k < n → I (p + 1) k = P k ∧ okc (P k)
set_option maxRecDepth 100000 in
set_option maxHeartbeats 4000000 in
theorem Tab.congr {I I' : PIm} {h : Nat} {z : Int} {tb : Int → Tm} (T : Tab I h z tb) (he : ∀ q, h ≤ q → q ≤ h + 5 → ∀ k, I' q k = I q k) : Tab I' h z tb := by
  obtain ⟨T0, T1, T2⟩ := T
  refine ⟨T0, fun i h0 h1 => ?_, T2⟩
  have r := T1 i h0 h1
  unfold TabE at r ⊢
  rw [he (h + 1) (by omega) (by omega), he (h + 2) (by omega) (by omega), he (h + 3) (by omega) (by omega), he (h + 4) (by omega) (by omega), he (h + 5) (by omega) (by omega)]
  exact r
/-- a table has grown by the terms S -/
def GrowS (I0 I : PIm) (h : Nat) (tb0 tb : Int → Tm) (S : Tm → Prop) : Prop := Tab I h (I h 5) tb ∧ I0 h 5 ≤ I h 5 ∧ (∀ j, j < I0 h 5 → tb j = tb0 j) ∧ (∀ j, 0 ≤ j → j < I h 5 → j < I0 h 5 ∨ S (tb j)) ∧ (∀ t, S t → ∃ j, 0 ≤ j ∧ j < I h 5 ∧ tb j = t) ∧ I h 6 = I0 h 6
set_option maxRecDepth 100000 in
set_option maxHeartbeats 4000000 in
theorem GrowS.start {I : PIm} {h : Nat} {tb : Int → Tm} (T : Tab I h (I h 5) tb) {S : Tm → Prop} (hS : ∀ t, ¬ S t) : GrowS I I h tb tb S := ⟨T, Int.le_refl _, fun _ _ => rfl, fun j _ h1 => Or.inl h1, fun t h => absurd h (hS t), rfl⟩
set_option maxRecDepth 100000 in
set_option maxHeartbeats 4000000 in
theorem GrowS.congr {I0 I I' : PIm} {h : Nat} {tb0 tb : Int → Tm} {S : Tm → Prop} (G : GrowS I0 I h tb0 tb S) (he : ∀ q, h ≤ q → q ≤ h + 5 → ∀ k, I' q k = I q k) : GrowS I0 I' h tb0 tb S := by
  obtain ⟨g1, g2, g3, g4, g5, g6⟩ := G
  have e5 := he h (by omega) (by omega) 5
  have e6 := he h (by omega) (by omega) 6
  exact ⟨by rw [e5]; exact g1.congr he, by rw [e5]; exact g2, g3, by rw [e5]; exact g4, by rw [e5]; exact g5, by rw [e6]; exact g6⟩
set_option maxRecDepth 100000 in
set_option maxHeartbeats 4000000 in
theorem GrowS.sub {I0 I : PIm} {h : Nat} {tb0 tb : Int → Tm} {S S' : Tm → Prop} (G : GrowS I0 I h tb0 tb S) (hs : ∀ t, S' t ↔ S t) : GrowS I0 I h tb0 tb S' := by
  obtain ⟨g1, g2, g3, g4, g5, g6⟩ := G
  exact ⟨g1, g2, g3, fun j h0 h1 => (g4 j h0 h1).imp id (hs _).mpr, fun t h => g5 t ((hs t).mp h), g6⟩
set_option maxRecDepth 100000 in
set_option maxHeartbeats 4000000 in
theorem GrowS.made {I0 I I' : PIm} {h : Nat} {tb0 tb tb' : Int → Tm} {S S' : Tm → Prop} {t : Tm} {i : Int} (G : GrowS I0 I h tb0 tb S) (M : Made I I' h tb tb' t i) (hs : ∀ u, S' u ↔ S u ∨ u = t) : GrowS I0 I' h tb0 tb' S' := by
  obtain ⟨g1, g2, g3, g4, g5, g6⟩ := G
  obtain ⟨m1, m2, m3, m4, m5, m6, m7, m8⟩ := M
  refine ⟨m3, by omega, fun j hj => by rw [m5 j (by omega), g3 j hj], fun j h0 h1 => ?_, fun u hu => ?_, by rw [m8, g6]⟩
  · rcases m6 j h1 with q | q
    · rcases g4 j h0 q with w | w
      · exact Or.inl w
      · exact Or.inr ((hs _).mpr (Or.inl (by rw [m5 j q]; exact w)))
    · exact Or.inr ((hs _).mpr (Or.inr q))
  · rcases (hs u).mp hu with q | q
    · obtain ⟨j, j0, j1, j2⟩ := g5 u q
      exact ⟨j, j0, by omega, by rw [m5 j j1]; exact j2⟩
    · exact ⟨i, m1.1, m1.2, by rw [q]; exact m2⟩
/-- PLAIN, k instructions through -/
def FlowP (I0 I : PIm) (h f : Nat) (tb0 tb : Int → Tm) (P : Int → Int) (k : Nat) : Prop :=
  GrowS I0 I h tb0 tb (fun t => ∃ j : Int, 0 ≤ j ∧ j < k ∧ kd (P j) ≠ 0 ∧ t = plM P j) ∧ I h 5 ≤ I0 h 5 + k ∧ (∀ q z, ¬ (h ≤ q ∧ q ≤ h + 5) → q ≠ f + 1 → I q z = I0 q z) ∧ ∀ r, 0 ≤ r → r < 4 → 0 ≤ I (f + 1) r ∧ I (f + 1) r < I h 5 ∧ tb (I (f + 1) r) = plT P k r
set_option maxRecDepth 100000 in
set_option maxHeartbeats 4000000 in
theorem mks_step {P : Int → Int} {M : Int → Tm} {k : Nat} (hk : kd (P (k : Int)) ≠ 0) (t : Tm) : (∃ j : Int, 0 ≤ j ∧ j < ((k + 1 : Nat) : Int) ∧ kd (P j) ≠ 0 ∧ t = M j) ↔ (∃ j : Int, 0 ≤ j ∧ j < (k : Int) ∧ kd (P j) ≠ 0 ∧ t = M j) ∨ t = M (k : Int) := by
  constructor
  · rintro ⟨j, j0, j1, j2, j3⟩
    by_cases q : j = (k : Int)
    · subst q; exact Or.inr j3
    · exact Or.inl ⟨j, j0, by omega, j2, j3⟩
  · rintro (⟨j, j0, j1, j2, j3⟩ | h)
    · exact ⟨j, j0, by omega, j2, j3⟩
    · exact ⟨k, by omega, by omega, hk, h⟩
set_option maxRecDepth 100000 in
set_option maxHeartbeats 4000000 in
theorem mks_stay {P : Int → Int} {M : Int → Tm} {k : Nat} (hk : kd (P (k : Int)) = 0) (t : Tm) : (∃ j : Int, 0 ≤ j ∧ j < ((k + 1 : Nat) : Int) ∧ kd (P j) ≠ 0 ∧ t = M j) ↔ (∃ j : Int, 0 ≤ j ∧ j < (k : Int) ∧ kd (P j) ≠ 0 ∧ t = M j) := by
  constructor
  · rintro ⟨j, j0, j1, j2, j3⟩
    by_cases q : j = (k : Int)
    · subst q; exact absurd hk j2
    · exact ⟨j, j0, by omega, j2, j3⟩
  · rintro ⟨j, j0, j1, j2, j3⟩
    exact ⟨j, j0, by omega, j2, j3⟩
set_option maxRecDepth 100000 in
set_option maxHeartbeats 4000000 in
theorem FlowP.made {I0 I I' : PIm} {h f : Nat} {tb0 tb tb' : Int → Tm} {P : Int → Int} {k : Nat} {i : Int} (F : FlowP I0 I h f tb0 tb P k) (hk : kd (P (k : Int)) ≠ 0) (M : Made I I' h tb tb' (plM P (k : Int)) i) (hdj : f + 6 < h ∨ h + 5 < f) : FlowP I0 (pw_up I' (f + 1) (dd (P (k : Int))) i) h f tb0 tb' P (k + 1) := by
  obtain ⟨f1, f2, f3, f4⟩ := F
  have G := f1.made M (mks_step hk)
  obtain ⟨m1, m2, m3, m4, m5, m6, m7, m8⟩ := M
  have e : ∀ q, h ≤ q → q ≤ h + 5 → ∀ z, pw_up I' (f + 1) (dd (P (k : Int))) i q z = I' q z := fun q h0 h1 z => pw_up_other (by omega)
  have e5 := e h (by omega) (by omega) 5
  refine ⟨G.congr e, by rw [e5]; omega, fun q z h0 h1 => by rw [pw_up_other (by omega), m7 q z h0, f3 q z h0 h1], fun r r0 r1 => ?_⟩
  rw [e5]
  have hd := dd_rg (P (k : Int))
  unfold plT
  rw [rdT]
  by_cases q : dd (P (k : Int)) = r
  · rw [if_pos ⟨⟨hk, q⟩, rfl⟩, q, pw_up_self]
    exact ⟨m1.1, m1.2, m2⟩
  · rw [if_neg (fun w => q w.1.2), pw_up_other (by omega), m7 (f + 1) r (by omega)]
    obtain ⟨a, b, c⟩ := f4 r r0 r1
    exact ⟨a, by omega, by rw [m5 _ b]; exact c⟩
set_option maxRecDepth 100000 in
set_option maxHeartbeats 4000000 in
theorem FlowP.stay {I0 I : PIm} {h f : Nat} {tb0 tb : Int → Tm} {P : Int → Int} {k : Nat} (F : FlowP I0 I h f tb0 tb P k) (hk : kd (P (k : Int)) = 0) : FlowP I0 I h f tb0 tb P (k + 1) := by
  obtain ⟨f1, f2, f3, f4⟩ := F
  refine ⟨f1.sub (mks_stay hk), by omega, f3, fun r r0 r1 => ?_⟩
  unfold plT
  rw [rdT, if_neg (fun w => w.1.1 hk)]
  exact f4 r r0 r1
set_option maxRecDepth 100000 in
set_option maxHeartbeats 4000000 in
theorem plM_eq (P : Int → Int) (k : Nat) : plM P (k : Int) = mkT (kd (P (k : Int))) (plT P k (ss (P (k : Int)))) (plT P k (tt (P (k : Int)))) := Md_eq P Vt k
set_option maxRecDepth 100000 in
set_option maxHeartbeats 4000000 in
theorem c_X2_goPlain (d : Nat) {I0 : PIm} {f p h N n : Nat} {tb0 : Int → Tm} {P : Int → Int} (F : FlowAt Γ R f) (G : ProgAt Γ R p) (T : TermsAt Γ R h N) (TB : Tab I0 h (I0 h 5) tb0) (hP : ProgOK I0 p P n) (hN : I0 h 5 + n ≤ N) (hd1 : f + 6 < h ∨ h + 5 < f) (hd2 : p + 1 < h ∨ h + 5 < p) (hd3 : p + 1 < f ∨ f + 6 < p) :
    PC sc mX2_goPlain (d + 3) 0 0 [.inr (some f), .inr (some p), .inr (some h)] Γ I0 R (fun v Γ' I' R' => v = none ∧ Γ' = Γ ∧ R' = R ∧ ∃ tb', FlowP I0 I' h f tb0 tb' P n) := by
  obtain ⟨f0, f1, f2, f3, f4, f5, f6, f7, f8, f9, f10, f11, f12⟩ := id F
  obtain ⟨p0, p1, p2⟩ := id G
  obtain ⟨hPn, hn6, hPc⟩ := id hP
  have t0 := T.1
  have t11 : N ≤ 200 := T.2.2.2.2.2.2.2.2.2.2.2
  have loop : ∀ (N1 k : Nat) (I : PIm) (tb : Int → Tm) (o1 o2 o3 o4 : Option PV), n - k = N1 → k ≤ n → FlowP I0 I h f tb0 tb P k → PW sc mX2_goPlain (d + 3) 0 0 (fun v Γ' I' R' => v = none ∧ Γ' = Γ ∧ R' = R ∧ ∃ tb', FlowP I0 I' h f tb0 tb' P n) 22 [some (.inr (some f)), some (.inr (some p)), some (.inr (some h)), some (.inl (k : Int)), o1, o2, o3, o4] [] Γ I R := by
    intro N1
    induction N1 using Nat.strongRecOn with
    | _ N1 ih =>
      intro k I tb o1 o2 o3 o4 hN1 hkn FP
      obtain ⟨g1, g2, g3, g4⟩ := id FP
      have en : I p 1 = n := by rw [g3 p 1 (by omega) (by omega)]; exact hPn
      by_cases hk : k < n
      · obtain ⟨ec, oc⟩ := hPc (k : Int) (by omega) (by omega)
        have ec' : I (p + 1) (k : Int) = P (k : Int) := by rw [g3 (p + 1) _ (by omega) (by omega)]; exact ec
        have hkd := kd_rg oc
        have hss := ss_rg (P (k : Int))
        have htt := tt_rg (P (k : Int))
        have hdd := dd_rg (P (k : Int))
        obtain ⟨a0, a1, a2⟩ := g4 _ hss.1 hss.2
        obtain ⟨b0, b1, b2⟩ := g4 _ htt.1 htt.2
        have hN' : I h 5 < N := by omega
        by_cases h0 : kd (P (k : Int)) = 0
        · refine PW.iload_n (pc := 22) dX2_goPlain_22 rfl ?_
          refine PW.aload_n (pc := 23) dX2_goPlain_23 rfl ?_
          refine PW.geti (pc := 24) dX2_goPlain_24 fl_X2_30 (by decide) (by first | assumption | rfl) ?_
          rw [en]
          refine PW.icmp_ge (pc := 27) (tgt := 109) dX2_goPlain_27 (by decide) (by first | omega | exact rg_of _) (by first | omega | exact rg_of _) (fun c_27 => ?_) (fun c_27 => ?_)
          · omega
          · refine PW.iload_n (pc := 30) dX2_goPlain_30 rfl ?_
            refine PW.bipush (pc := 31) dX2_goPlain_31 (by decide) ?_
            refine PW.icmp_ge (pc := 33) (tgt := 109) dX2_goPlain_33 (by decide) (by first | omega | exact rg_of _) (by first | omega | exact rg_of _) (fun c_33 => ?_) (fun c_33 => ?_)
            · omega
            · refine PW.aload_n (pc := 36) dX2_goPlain_36 rfl ?_
              refine PW.getr (pc := 37) dX2_goPlain_37 fl_X2_36 (by first | assumption | rfl) (by first | assumption | rfl) ?_
              refine PW.iload_n (pc := 40) dX2_goPlain_40 rfl ?_
              refine PW.iald (pc := 41) dX2_goPlain_41 (by first | assumption | rfl) (by omega) (by omega) (by omega) ?_
              rw [ec']
              refine PW.istore (pc := 42) dX2_goPlain_42 (by decide) ?_
              refine PW.iload (pc := 44) dX2_goPlain_44 rfl ?_
              refine PW.invS0x (pc := 46) dX2_goPlain_46 ms_X2_39 (c_kd (d + 2) oc) rfl rfl (Nat.le_of_ble_eq_true rfl) ?_
              refine PW.istore (pc := 49) dX2_goPlain_49 (by decide) ?_
              refine PW.iload (pc := 51) dX2_goPlain_51 rfl ?_
              refine PW.if_eq (pc := 53) (tgt := 103) dX2_goPlain_53 (by decide) (by first | omega | exact rg_of _) (fun c_53 => ?_) (fun c_53 => ?_)
              · refine PW.iinc (pc := 103) dX2_goPlain_103 rfl (by decide) ?_
                refine PW.goto (pc := 106) (tgt := 22) dX2_goPlain_106 (by decide) ?_
                exact ih (n - (k + 1)) (by omega) (k + 1) I tb _ _ _ _ rfl (by omega) (FP.stay h0)
              · omega
        · have et : plM P (k : Int) = if (if kd (P (k : Int)) = 1 then 4 else 5) = (5 : Int) then tg (tb (I (f + 1) (ss (P (k : Int))))) (tb (if (if kd (P (k : Int)) = 1 then 4 else 5) = (5 : Int) then I (f + 1) (tt (P (k : Int))) else I (f + 1) (ss (P (k : Int))))) else tf (tb (I (f + 1) (ss (P (k : Int))))) := by
            rw [plM_eq, a2]
            unfold mkT
            by_cases h1 : kd (P (k : Int)) = 1
            · rw [if_pos h1, if_pos h1, if_neg (by decide)]
            · rw [if_neg h1, if_neg h1, if_pos rfl, if_pos rfl, b2]
          refine PW.iload_n (pc := 22) dX2_goPlain_22 rfl ?_
          refine PW.aload_n (pc := 23) dX2_goPlain_23 rfl ?_
          refine PW.geti (pc := 24) dX2_goPlain_24 fl_X2_30 (by decide) (by first | assumption | rfl) ?_
          rw [en]
          refine PW.icmp_ge (pc := 27) (tgt := 109) dX2_goPlain_27 (by decide) (by first | omega | exact rg_of _) (by first | omega | exact rg_of _) (fun c_27 => ?_) (fun c_27 => ?_)
          · omega
          · refine PW.iload_n (pc := 30) dX2_goPlain_30 rfl ?_
            refine PW.bipush (pc := 31) dX2_goPlain_31 (by decide) ?_
            refine PW.icmp_ge (pc := 33) (tgt := 109) dX2_goPlain_33 (by decide) (by first | omega | exact rg_of _) (by first | omega | exact rg_of _) (fun c_33 => ?_) (fun c_33 => ?_)
            · omega
            · refine PW.aload_n (pc := 36) dX2_goPlain_36 rfl ?_
              refine PW.getr (pc := 37) dX2_goPlain_37 fl_X2_36 (by first | assumption | rfl) (by first | assumption | rfl) ?_
              refine PW.iload_n (pc := 40) dX2_goPlain_40 rfl ?_
              refine PW.iald (pc := 41) dX2_goPlain_41 (by first | assumption | rfl) (by omega) (by omega) (by omega) ?_
              rw [ec']
              refine PW.istore (pc := 42) dX2_goPlain_42 (by decide) ?_
              refine PW.iload (pc := 44) dX2_goPlain_44 rfl ?_
              refine PW.invS0x (pc := 46) dX2_goPlain_46 ms_X2_39 (c_kd (d + 2) oc) rfl rfl (Nat.le_of_ble_eq_true rfl) ?_
              refine PW.istore (pc := 49) dX2_goPlain_49 (by decide) ?_
              refine PW.iload (pc := 51) dX2_goPlain_51 rfl ?_
              refine PW.if_eq (pc := 53) (tgt := 103) dX2_goPlain_53 (by decide) (by first | omega | exact rg_of _) (fun c_53 => ?_) (fun c_53 => ?_)
              · omega
              · refine PW.aload_n (pc := 56) dX2_goPlain_56 rfl ?_
                refine PW.getr (pc := 57) dX2_goPlain_57 fl_X2_9 (by first | assumption | rfl) (by first | assumption | rfl) ?_
                refine PW.iload (pc := 60) dX2_goPlain_60 rfl ?_
                refine PW.invS0x (pc := 62) dX2_goPlain_62 ms_X2_43 (c_ss (d + 2) oc) rfl rfl (Nat.le_of_ble_eq_true rfl) ?_
                refine PW.iald (pc := 65) dX2_goPlain_65 (by first | assumption | rfl) (by omega) (by omega) (by omega) ?_
                refine PW.istore (pc := 66) dX2_goPlain_66 (by decide) ?_
                refine PW.aload_n (pc := 68) dX2_goPlain_68 rfl ?_
                refine PW.getr (pc := 69) dX2_goPlain_69 fl_X2_9 (by first | assumption | rfl) (by first | assumption | rfl) ?_
                refine PW.iload (pc := 72) dX2_goPlain_72 rfl ?_
                refine PW.invS0x (pc := 74) dX2_goPlain_74 ms_X2_46 (c_tt (d + 2) oc) rfl rfl (Nat.le_of_ble_eq_true rfl) ?_
                refine PW.iald (pc := 77) dX2_goPlain_77 (by first | assumption | rfl) (by omega) (by omega) (by omega) ?_
                refine PW.istore (pc := 78) dX2_goPlain_78 (by decide) ?_
                refine PW.aload_n (pc := 80) dX2_goPlain_80 rfl ?_
                refine PW.getr (pc := 81) dX2_goPlain_81 fl_X2_9 (by first | assumption | rfl) (by first | assumption | rfl) ?_
                refine PW.iload (pc := 84) dX2_goPlain_84 rfl ?_
                refine PW.invS0x (pc := 86) dX2_goPlain_86 ms_X2_49 (c_dd (d + 2) oc) rfl rfl (Nat.le_of_ble_eq_true rfl) ?_
                refine PW.aload_n (pc := 89) dX2_goPlain_89 rfl ?_
                refine PW.iload (pc := 90) dX2_goPlain_90 rfl ?_
                refine PW.invS0x (pc := 92) dX2_goPlain_92 ms_X2_52 (c_X2_headOf (d + 2) (by omega)) rfl rfl (Nat.le_of_ble_eq_true rfl) ?_
                refine PW.iload (pc := 95) dX2_goPlain_95 rfl ?_
                refine PW.iload (pc := 97) dX2_goPlain_97 rfl ?_
                refine PW.invV0 (pc := 99) dX2_goPlain_99 mv_X2_55 (c_X8_make d T g1.1 hN' (by split <;> omega) ⟨a0, a1⟩ (by split <;> omega) (by omega) rfl et) (by first | assumption | rfl) rfl rfl (Nat.le_of_ble_eq_true rfl) ?_
                (rintro v Γ' I' R' ⟨rfl, rfl, i, tb', rfl, hM⟩)
                refine PW.iast (pc := 102) dX2_goPlain_102 (by first | assumption | rfl) (by omega) (by omega) (by omega) ?_
                refine PW.iinc (pc := 103) dX2_goPlain_103 rfl (by decide) ?_
                refine PW.goto (pc := 106) (tgt := 22) dX2_goPlain_106 (by decide) ?_
                exact ih (n - (k + 1)) (by omega) (k + 1) _ tb' _ _ _ _ rfl (by omega) (FP.made h0 hM hd1)
      · obtain rfl : k = n := by omega
        refine PW.iload_n (pc := 22) dX2_goPlain_22 rfl ?_
        refine PW.aload_n (pc := 23) dX2_goPlain_23 rfl ?_
        refine PW.geti (pc := 24) dX2_goPlain_24 fl_X2_30 (by decide) (by first | assumption | rfl) ?_
        rw [en]
        refine PW.icmp_ge (pc := 27) (tgt := 109) dX2_goPlain_27 (by decide) (by first | omega | exact rg_of _) (by first | omega | exact rg_of _) (fun c_27 => ?_) (fun c_27 => ?_)
        · exact PW.vreturn (pc := 109) dX2_goPlain_109 rfl (⟨rfl, rfl, rfl, tb, FP⟩)
        · omega
  refine PC.ofPW (by decide) (Nat.le_of_ble_eq_true rfl) ?_
  have hI : ∀ q z, ¬ (h ≤ q ∧ q ≤ h + 5) → q ≠ f + 1 → pw_up (pw_up (pw_up (pw_up I0 (f + 1) 0 0) (f + 1) 1 1) (f + 1) 2 2) (f + 1) 3 3 q z = I0 q z := fun q z h0 h1 => by
    rw [pw_up_other (by omega), pw_up_other (by omega), pw_up_other (by omega), pw_up_other (by omega)]
  have hH : ∀ q, h ≤ q → q ≤ h + 5 → ∀ z, pw_up (pw_up (pw_up (pw_up I0 (f + 1) 0 0) (f + 1) 1 1) (f + 1) 2 2) (f + 1) 3 3 q z = I0 q z := fun q h0 h1 z => by
    rw [pw_up_other (by omega), pw_up_other (by omega), pw_up_other (by omega), pw_up_other (by omega)]
  have FP0 : FlowP I0 (pw_up (pw_up (pw_up (pw_up I0 (f + 1) 0 0) (f + 1) 1 1) (f + 1) 2 2) (f + 1) 3 3) h f tb0 tb0 P 0 := by
    refine ⟨(GrowS.start TB (fun t => by rintro ⟨j, j0, j1, -⟩; omega)).congr hH, by rw [hH h (by omega) (by omega)]; omega, hI, fun r r0 r1 => ?_⟩
    have h4 := TB.1
    have er : pw_up (pw_up (pw_up (pw_up I0 (f + 1) 0 0) (f + 1) 1 1) (f + 1) 2 2) (f + 1) 3 3 (f + 1) r = r := by
      unfold pw_up
      by_cases q3 : r = 3
      · subst q3; simp
      · by_cases q2 : r = 2
        · subst q2; simp
        · by_cases q1 : r = 1
          · subst q1; simp
          · obtain rfl : r = 0 := by omega
            simp
    rw [er, hH h (by omega) (by omega)]
    exact ⟨r0, by omega, ((TB.row r0 (by omega)).1 r1).2.1⟩
  refine PW.iconst (pc := 0) dX2_goPlain_0 ?_
  refine PW.istore_n (pc := 1) dX2_goPlain_1 (by decide) ?_
  refine PW.iload_n (pc := 2) dX2_goPlain_2 rfl ?_
  refine PW.iconst (pc := 3) dX2_goPlain_3 ?_
  refine PW.icmp_ge (pc := 4) (tgt := 20) dX2_goPlain_4 (by decide) (by first | omega | exact rg_of _) (by first | omega | exact rg_of _) (fun c_4 => ?_) (fun c_4 => ?_)
  · omega
  · refine PW.aload_n (pc := 7) dX2_goPlain_7 rfl ?_
    refine PW.getr (pc := 8) dX2_goPlain_8 fl_X2_9 (by first | assumption | rfl) (by first | assumption | rfl) ?_
    refine PW.iload_n (pc := 11) dX2_goPlain_11 rfl ?_
    refine PW.iload_n (pc := 12) dX2_goPlain_12 rfl ?_
    refine PW.iast (pc := 13) dX2_goPlain_13 (by first | assumption | rfl) (by omega) (by omega) (by omega) ?_
    refine PW.iinc (pc := 14) dX2_goPlain_14 rfl (by decide) ?_
    refine PW.goto (pc := 17) (tgt := 2) dX2_goPlain_17 (by decide) ?_
    refine PW.iload_n (pc := 2) dX2_goPlain_2 rfl ?_
    refine PW.iconst (pc := 3) dX2_goPlain_3 ?_
    refine PW.icmp_ge (pc := 4) (tgt := 20) dX2_goPlain_4 (by decide) (by first | omega | exact rg_of _) (by first | omega | exact rg_of _) (fun c_4 => ?_) (fun c_4 => ?_)
    · omega
    · refine PW.aload_n (pc := 7) dX2_goPlain_7 rfl ?_
      refine PW.getr (pc := 8) dX2_goPlain_8 fl_X2_9 (by first | assumption | rfl) (by first | assumption | rfl) ?_
      refine PW.iload_n (pc := 11) dX2_goPlain_11 rfl ?_
      refine PW.iload_n (pc := 12) dX2_goPlain_12 rfl ?_
      refine PW.iast (pc := 13) dX2_goPlain_13 (by first | assumption | rfl) (by omega) (by omega) (by omega) ?_
      refine PW.iinc (pc := 14) dX2_goPlain_14 rfl (by decide) ?_
      refine PW.goto (pc := 17) (tgt := 2) dX2_goPlain_17 (by decide) ?_
      refine PW.iload_n (pc := 2) dX2_goPlain_2 rfl ?_
      refine PW.iconst (pc := 3) dX2_goPlain_3 ?_
      refine PW.icmp_ge (pc := 4) (tgt := 20) dX2_goPlain_4 (by decide) (by first | omega | exact rg_of _) (by first | omega | exact rg_of _) (fun c_4 => ?_) (fun c_4 => ?_)
      · omega
      · refine PW.aload_n (pc := 7) dX2_goPlain_7 rfl ?_
        refine PW.getr (pc := 8) dX2_goPlain_8 fl_X2_9 (by first | assumption | rfl) (by first | assumption | rfl) ?_
        refine PW.iload_n (pc := 11) dX2_goPlain_11 rfl ?_
        refine PW.iload_n (pc := 12) dX2_goPlain_12 rfl ?_
        refine PW.iast (pc := 13) dX2_goPlain_13 (by first | assumption | rfl) (by omega) (by omega) (by omega) ?_
        refine PW.iinc (pc := 14) dX2_goPlain_14 rfl (by decide) ?_
        refine PW.goto (pc := 17) (tgt := 2) dX2_goPlain_17 (by decide) ?_
        refine PW.iload_n (pc := 2) dX2_goPlain_2 rfl ?_
        refine PW.iconst (pc := 3) dX2_goPlain_3 ?_
        refine PW.icmp_ge (pc := 4) (tgt := 20) dX2_goPlain_4 (by decide) (by first | omega | exact rg_of _) (by first | omega | exact rg_of _) (fun c_4 => ?_) (fun c_4 => ?_)
        · omega
        · refine PW.aload_n (pc := 7) dX2_goPlain_7 rfl ?_
          refine PW.getr (pc := 8) dX2_goPlain_8 fl_X2_9 (by first | assumption | rfl) (by first | assumption | rfl) ?_
          refine PW.iload_n (pc := 11) dX2_goPlain_11 rfl ?_
          refine PW.iload_n (pc := 12) dX2_goPlain_12 rfl ?_
          refine PW.iast (pc := 13) dX2_goPlain_13 (by first | assumption | rfl) (by omega) (by omega) (by omega) ?_
          refine PW.iinc (pc := 14) dX2_goPlain_14 rfl (by decide) ?_
          refine PW.goto (pc := 17) (tgt := 2) dX2_goPlain_17 (by decide) ?_
          refine PW.iload_n (pc := 2) dX2_goPlain_2 rfl ?_
          refine PW.iconst (pc := 3) dX2_goPlain_3 ?_
          refine PW.icmp_ge (pc := 4) (tgt := 20) dX2_goPlain_4 (by decide) (by first | omega | exact rg_of _) (by first | omega | exact rg_of _) (fun c_4 => ?_) (fun c_4 => ?_)
          · refine PW.iconst (pc := 20) dX2_goPlain_20 ?_
            refine PW.istore_n (pc := 21) dX2_goPlain_21 (by decide) ?_
            exact loop n 0 _ tb0 _ _ _ _ (by omega) (by omega) FP0
          · omega
end FLOW
end
