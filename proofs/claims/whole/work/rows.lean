section
-- ===== PART A: goes FIRST, ahead of the names: the tables' words, and 'selects' of the private methods out of them =====
/-- a private method of a class that the tables say can be made, by its rows of tables_1 -/
def lw_okq (q : MethodName × Nat) : Prop := (q.1.cls ≠ "java/lang/invoke/MethodHandle" ∧ q.1.cls ≠ "java/lang/invoke/VarHandle") ∧ Cond.instantiable q.1.cls q.2 ∈ tables_1 ∧ Cond.privateMethod q.1 ∈ tables_1 ∧ Cond.instanceMethod q.1 ∈ tables_1
theorem lw_p0 : lw_okq (⟨"CaskGauge$Text", "goesOn", "(I)Z"⟩, 5) := ⟨⟨by decide +kernel, by decide +kernel⟩, List.mem_of_getElem? (i := 26) (by decide +kernel), List.mem_of_getElem? (i := 280) (by decide +kernel), List.mem_of_getElem? (i := 281) (by decide +kernel)⟩
theorem lw_p1 : lw_okq (⟨"CaskGauge$Text", "putKind", "(II)V"⟩, 5) := ⟨⟨by decide +kernel, by decide +kernel⟩, List.mem_of_getElem? (i := 26) (by decide +kernel), List.mem_of_getElem? (i := 290) (by decide +kernel), List.mem_of_getElem? (i := 291) (by decide +kernel)⟩
theorem lw_p2 : lw_okq (⟨"CaskGauge$Text", "kindOfWord", "(II)I"⟩, 5) := ⟨⟨by decide +kernel, by decide +kernel⟩, List.mem_of_getElem? (i := 26) (by decide +kernel), List.mem_of_getElem? (i := 294) (by decide +kernel), List.mem_of_getElem? (i := 295) (by decide +kernel)⟩
theorem lw_p3 : lw_okq (⟨"CaskGauge$Text", "isWord", "(Ljava/lang/String;II)Z"⟩, 5) := ⟨⟨by decide +kernel, by decide +kernel⟩, List.mem_of_getElem? (i := 26) (by decide +kernel), List.mem_of_getElem? (i := 299) (by decide +kernel), List.mem_of_getElem? (i := 300) (by decide +kernel)⟩
theorem lw_p4 : lw_okq (⟨"CaskGauge$Text", "kindOfNumber", "(II)I"⟩, 5) := ⟨⟨by decide +kernel, by decide +kernel⟩, List.mem_of_getElem? (i := 26) (by decide +kernel), List.mem_of_getElem? (i := 352) (by decide +kernel), List.mem_of_getElem? (i := 353) (by decide +kernel)⟩
theorem lw_p5 : lw_okq (⟨"CaskGauge$Text", "valueOf", "(II)I"⟩, 5) := ⟨⟨by decide +kernel, by decide +kernel⟩, List.mem_of_getElem? (i := 26) (by decide +kernel), List.mem_of_getElem? (i := 356) (by decide +kernel), List.mem_of_getElem? (i := 357) (by decide +kernel)⟩
theorem lw_p6 : lw_okq (⟨"CaskGauge$Reader", "readItem", "()Z"⟩, 4) := ⟨⟨by decide +kernel, by decide +kernel⟩, List.mem_of_getElem? (i := 53) (by decide +kernel), List.mem_of_getElem? (i := 364) (by decide +kernel), List.mem_of_getElem? (i := 365) (by decide +kernel)⟩
theorem lw_p7 : lw_okq (⟨"CaskGauge$Reader", "readCask", "()Z"⟩, 4) := ⟨⟨by decide +kernel, by decide +kernel⟩, List.mem_of_getElem? (i := 53) (by decide +kernel), List.mem_of_getElem? (i := 368) (by decide +kernel), List.mem_of_getElem? (i := 369) (by decide +kernel)⟩
theorem lw_p8 : lw_okq (⟨"CaskGauge$Reader", "readNumber", "(II)Z"⟩, 4) := ⟨⟨by decide +kernel, by decide +kernel⟩, List.mem_of_getElem? (i := 53) (by decide +kernel), List.mem_of_getElem? (i := 372) (by decide +kernel), List.mem_of_getElem? (i := 373) (by decide +kernel)⟩
theorem lw_p9 : lw_okq (⟨"CaskGauge$Reader", "step", "()V"⟩, 4) := ⟨⟨by decide +kernel, by decide +kernel⟩, List.mem_of_getElem? (i := 53) (by decide +kernel), List.mem_of_getElem? (i := 376) (by decide +kernel), List.mem_of_getElem? (i := 377) (by decide +kernel)⟩
theorem lw_p10 : lw_okq (⟨"CaskGauge$Reader", "readItemEnd", "()Z"⟩, 4) := ⟨⟨by decide +kernel, by decide +kernel⟩, List.mem_of_getElem? (i := 53) (by decide +kernel), List.mem_of_getElem? (i := 380) (by decide +kernel), List.mem_of_getElem? (i := 381) (by decide +kernel)⟩
theorem lw_p11 : lw_okq (⟨"CaskGauge$Reader", "readStands", "()Z"⟩, 4) := ⟨⟨by decide +kernel, by decide +kernel⟩, List.mem_of_getElem? (i := 53) (by decide +kernel), List.mem_of_getElem? (i := 392) (by decide +kernel), List.mem_of_getElem? (i := 393) (by decide +kernel)⟩
theorem lw_p12 : lw_okq (⟨"CaskGauge", "roomIn", "(I)I"⟩, 11) := ⟨⟨by decide +kernel, by decide +kernel⟩, List.mem_of_getElem? (i := 18) (by decide +kernel), List.mem_of_getElem? (i := 426) (by decide +kernel), List.mem_of_getElem? (i := 427) (by decide +kernel)⟩
theorem lw_p13 : lw_okq (⟨"CaskGauge", "levelsOf", "(I)LCaskGauge$Levels;"⟩, 11) := ⟨⟨by decide +kernel, by decide +kernel⟩, List.mem_of_getElem? (i := 18) (by decide +kernel), List.mem_of_getElem? (i := 430) (by decide +kernel), List.mem_of_getElem? (i := 431) (by decide +kernel)⟩
theorem lw_p14 : lw_okq (⟨"CaskGauge", "lyingLevelsOf", "(I)LCaskGauge$Levels;"⟩, 11) := ⟨⟨by decide +kernel, by decide +kernel⟩, List.mem_of_getElem? (i := 18) (by decide +kernel), List.mem_of_getElem? (i := 434) (by decide +kernel), List.mem_of_getElem? (i := 435) (by decide +kernel)⟩
theorem lw_p15 : lw_okq (⟨"CaskGauge$Levels", "addAhead", "(II)V"⟩, 6) := ⟨⟨by decide +kernel, by decide +kernel⟩, List.mem_of_getElem? (i := 170) (by decide +kernel), List.mem_of_getElem? (i := 451) (by decide +kernel), List.mem_of_getElem? (i := 452) (by decide +kernel)⟩
def lw_privs_1 : List (MethodName × Nat) := [(⟨"CaskGauge$Text", "goesOn", "(I)Z"⟩, 5), (⟨"CaskGauge$Text", "putKind", "(II)V"⟩, 5), (⟨"CaskGauge$Text", "kindOfWord", "(II)I"⟩, 5), (⟨"CaskGauge$Text", "isWord", "(Ljava/lang/String;II)Z"⟩, 5), (⟨"CaskGauge$Text", "kindOfNumber", "(II)I"⟩, 5), (⟨"CaskGauge$Text", "valueOf", "(II)I"⟩, 5), (⟨"CaskGauge$Reader", "readItem", "()Z"⟩, 4), (⟨"CaskGauge$Reader", "readCask", "()Z"⟩, 4), (⟨"CaskGauge$Reader", "readNumber", "(II)Z"⟩, 4), (⟨"CaskGauge$Reader", "step", "()V"⟩, 4), (⟨"CaskGauge$Reader", "readItemEnd", "()Z"⟩, 4), (⟨"CaskGauge$Reader", "readStands", "()Z"⟩, 4), (⟨"CaskGauge", "roomIn", "(I)I"⟩, 11), (⟨"CaskGauge", "levelsOf", "(I)LCaskGauge$Levels;"⟩, 11), (⟨"CaskGauge", "lyingLevelsOf", "(I)LCaskGauge$Levels;"⟩, 11), (⟨"CaskGauge$Levels", "addAhead", "(II)V"⟩, 6)]
theorem lw_r1 : ∀ q ∈ lw_privs_1, lw_okq q := List.forall_mem_cons.mpr ⟨lw_p0, List.forall_mem_cons.mpr ⟨lw_p1, List.forall_mem_cons.mpr ⟨lw_p2, List.forall_mem_cons.mpr ⟨lw_p3, List.forall_mem_cons.mpr ⟨lw_p4, List.forall_mem_cons.mpr ⟨lw_p5, List.forall_mem_cons.mpr ⟨lw_p6, List.forall_mem_cons.mpr ⟨lw_p7, List.forall_mem_cons.mpr ⟨lw_p8, List.forall_mem_cons.mpr ⟨lw_p9, List.forall_mem_cons.mpr ⟨lw_p10, List.forall_mem_cons.mpr ⟨lw_p11, List.forall_mem_cons.mpr ⟨lw_p12, List.forall_mem_cons.mpr ⟨lw_p13, List.forall_mem_cons.mpr ⟨lw_p14, List.forall_mem_cons.mpr ⟨lw_p15, fun _ h => absurd h List.not_mem_nil⟩⟩⟩⟩⟩⟩⟩⟩⟩⟩⟩⟩⟩⟩⟩⟩
theorem lw_p16 : lw_okq (⟨"CaskGauge$Sharing", "weigh", "(LCaskGauge$Levels;III)V"⟩, 5) := ⟨⟨by decide +kernel, by decide +kernel⟩, List.mem_of_getElem? (i := 195) (by decide +kernel), List.mem_of_getElem? (i := 557) (by decide +kernel), List.mem_of_getElem? (i := 558) (by decide +kernel)⟩
theorem lw_p17 : lw_okq (⟨"CaskGauge", "startAsking", "()V"⟩, 11) := ⟨⟨by decide +kernel, by decide +kernel⟩, List.mem_of_getElem? (i := 18) (by decide +kernel), List.mem_of_getElem? (i := 609) (by decide +kernel), List.mem_of_getElem? (i := 610) (by decide +kernel)⟩
theorem lw_p18 : lw_okq (⟨"CaskGauge", "mostAlike", "(I)I"⟩, 11) := ⟨⟨by decide +kernel, by decide +kernel⟩, List.mem_of_getElem? (i := 18) (by decide +kernel), List.mem_of_getElem? (i := 613) (by decide +kernel), List.mem_of_getElem? (i := 614) (by decide +kernel)⟩
theorem lw_p19 : lw_okq (⟨"CaskGauge", "raiseAskedDips", "(I)Z"⟩, 11) := ⟨⟨by decide +kernel, by decide +kernel⟩, List.mem_of_getElem? (i := 18) (by decide +kernel), List.mem_of_getElem? (i := 618) (by decide +kernel), List.mem_of_getElem? (i := 619) (by decide +kernel)⟩
theorem lw_p20 : lw_okq (⟨"CaskGaugeModel", "reads", "()I"⟩, 21) := ⟨⟨by decide +kernel, by decide +kernel⟩, List.mem_of_getElem? (i := 643) (by decide +kernel), List.mem_of_getElem? (i := 728) (by decide +kernel), List.mem_of_getElem? (i := 729) (by decide +kernel)⟩
theorem lw_p21 : lw_okq (⟨"CaskGaugeModel", "steps", "()V"⟩, 21) := ⟨⟨by decide +kernel, by decide +kernel⟩, List.mem_of_getElem? (i := 643) (by decide +kernel), List.mem_of_getElem? (i := 732) (by decide +kernel), List.mem_of_getElem? (i := 733) (by decide +kernel)⟩
theorem lw_p22 : lw_okq (⟨"CaskGaugeModel", "at", "(I)I"⟩, 21) := ⟨⟨by decide +kernel, by decide +kernel⟩, List.mem_of_getElem? (i := 643) (by decide +kernel), List.mem_of_getElem? (i := 736) (by decide +kernel), List.mem_of_getElem? (i := 737) (by decide +kernel)⟩
theorem lw_p23 : lw_okq (⟨"CaskGaugeModel", "takesFigures", "()V"⟩, 21) := ⟨⟨by decide +kernel, by decide +kernel⟩, List.mem_of_getElem? (i := 643) (by decide +kernel), List.mem_of_getElem? (i := 740) (by decide +kernel), List.mem_of_getElem? (i := 741) (by decide +kernel)⟩
theorem lw_p24 : lw_okq (⟨"CaskGaugeModel", "isCaskWord", "()Z"⟩, 21) := ⟨⟨by decide +kernel, by decide +kernel⟩, List.mem_of_getElem? (i := 643) (by decide +kernel), List.mem_of_getElem? (i := 744) (by decide +kernel), List.mem_of_getElem? (i := 745) (by decide +kernel)⟩
theorem lw_p25 : lw_okq (⟨"CaskGaugeModel", "isStandsWord", "()Z"⟩, 21) := ⟨⟨by decide +kernel, by decide +kernel⟩, List.mem_of_getElem? (i := 643) (by decide +kernel), List.mem_of_getElem? (i := 748) (by decide +kernel), List.mem_of_getElem? (i := 749) (by decide +kernel)⟩
theorem lw_p26 : lw_okq (⟨"CaskGaugeModel", "readsCask", "()V"⟩, 21) := ⟨⟨by decide +kernel, by decide +kernel⟩, List.mem_of_getElem? (i := 643) (by decide +kernel), List.mem_of_getElem? (i := 752) (by decide +kernel), List.mem_of_getElem? (i := 753) (by decide +kernel)⟩
theorem lw_p27 : lw_okq (⟨"CaskGaugeModel", "takes", "(Z)V"⟩, 21) := ⟨⟨by decide +kernel, by decide +kernel⟩, List.mem_of_getElem? (i := 643) (by decide +kernel), List.mem_of_getElem? (i := 756) (by decide +kernel), List.mem_of_getElem? (i := 757) (by decide +kernel)⟩
theorem lw_p28 : lw_okq (⟨"CaskGaugeModel", "numberIn", "(II)I"⟩, 21) := ⟨⟨by decide +kernel, by decide +kernel⟩, List.mem_of_getElem? (i := 643) (by decide +kernel), List.mem_of_getElem? (i := 760) (by decide +kernel), List.mem_of_getElem? (i := 761) (by decide +kernel)⟩
theorem lw_p29 : lw_okq (⟨"CaskGaugeModel", "readsStands", "()V"⟩, 21) := ⟨⟨by decide +kernel, by decide +kernel⟩, List.mem_of_getElem? (i := 643) (by decide +kernel), List.mem_of_getElem? (i := 764) (by decide +kernel), List.mem_of_getElem? (i := 765) (by decide +kernel)⟩
theorem lw_p30 : lw_okq (⟨"CaskGaugeModel", "notes", "()V"⟩, 21) := ⟨⟨by decide +kernel, by decide +kernel⟩, List.mem_of_getElem? (i := 643) (by decide +kernel), List.mem_of_getElem? (i := 768) (by decide +kernel), List.mem_of_getElem? (i := 769) (by decide +kernel)⟩
theorem lw_p31 : lw_okq (⟨"CaskGaugeModel", "isCask", "(I)Z"⟩, 21) := ⟨⟨by decide +kernel, by decide +kernel⟩, List.mem_of_getElem? (i := 643) (by decide +kernel), List.mem_of_getElem? (i := 776) (by decide +kernel), List.mem_of_getElem? (i := 777) (by decide +kernel)⟩
def lw_privs_2 : List (MethodName × Nat) := [(⟨"CaskGauge$Sharing", "weigh", "(LCaskGauge$Levels;III)V"⟩, 5), (⟨"CaskGauge", "startAsking", "()V"⟩, 11), (⟨"CaskGauge", "mostAlike", "(I)I"⟩, 11), (⟨"CaskGauge", "raiseAskedDips", "(I)Z"⟩, 11), (⟨"CaskGaugeModel", "reads", "()I"⟩, 21), (⟨"CaskGaugeModel", "steps", "()V"⟩, 21), (⟨"CaskGaugeModel", "at", "(I)I"⟩, 21), (⟨"CaskGaugeModel", "takesFigures", "()V"⟩, 21), (⟨"CaskGaugeModel", "isCaskWord", "()Z"⟩, 21), (⟨"CaskGaugeModel", "isStandsWord", "()Z"⟩, 21), (⟨"CaskGaugeModel", "readsCask", "()V"⟩, 21), (⟨"CaskGaugeModel", "takes", "(Z)V"⟩, 21), (⟨"CaskGaugeModel", "numberIn", "(II)I"⟩, 21), (⟨"CaskGaugeModel", "readsStands", "()V"⟩, 21), (⟨"CaskGaugeModel", "notes", "()V"⟩, 21), (⟨"CaskGaugeModel", "isCask", "(I)Z"⟩, 21)]
theorem lw_r2 : ∀ q ∈ lw_privs_2, lw_okq q := List.forall_mem_cons.mpr ⟨lw_p16, List.forall_mem_cons.mpr ⟨lw_p17, List.forall_mem_cons.mpr ⟨lw_p18, List.forall_mem_cons.mpr ⟨lw_p19, List.forall_mem_cons.mpr ⟨lw_p20, List.forall_mem_cons.mpr ⟨lw_p21, List.forall_mem_cons.mpr ⟨lw_p22, List.forall_mem_cons.mpr ⟨lw_p23, List.forall_mem_cons.mpr ⟨lw_p24, List.forall_mem_cons.mpr ⟨lw_p25, List.forall_mem_cons.mpr ⟨lw_p26, List.forall_mem_cons.mpr ⟨lw_p27, List.forall_mem_cons.mpr ⟨lw_p28, List.forall_mem_cons.mpr ⟨lw_p29, List.forall_mem_cons.mpr ⟨lw_p30, List.forall_mem_cons.mpr ⟨lw_p31, fun _ h => absurd h List.not_mem_nil⟩⟩⟩⟩⟩⟩⟩⟩⟩⟩⟩⟩⟩⟩⟩⟩
theorem lw_p32 : lw_okq (⟨"CaskGaugeModel", "hold", "(I)I"⟩, 21) := ⟨⟨by decide +kernel, by decide +kernel⟩, List.mem_of_getElem? (i := 643) (by decide +kernel), List.mem_of_getElem? (i := 780) (by decide +kernel), List.mem_of_getElem? (i := 781) (by decide +kernel)⟩
theorem lw_p33 : lw_okq (⟨"CaskGaugeModel", "laysNow", "(I)V"⟩, 21) := ⟨⟨by decide +kernel, by decide +kernel⟩, List.mem_of_getElem? (i := 643) (by decide +kernel), List.mem_of_getElem? (i := 784) (by decide +kernel), List.mem_of_getElem? (i := 785) (by decide +kernel)⟩
theorem lw_p34 : lw_okq (⟨"CaskGaugeModel", "of", "(II)I"⟩, 21) := ⟨⟨by decide +kernel, by decide +kernel⟩, List.mem_of_getElem? (i := 643) (by decide +kernel), List.mem_of_getElem? (i := 788) (by decide +kernel), List.mem_of_getElem? (i := 789) (by decide +kernel)⟩
theorem lw_p35 : lw_okq (⟨"CaskGaugeModel", "lays", "(IZ)V"⟩, 21) := ⟨⟨by decide +kernel, by decide +kernel⟩, List.mem_of_getElem? (i := 643) (by decide +kernel), List.mem_of_getElem? (i := 792) (by decide +kernel), List.mem_of_getElem? (i := 793) (by decide +kernel)⟩
theorem lw_p36 : lw_okq (⟨"CaskGaugeModel", "cellsOf", "(III)I"⟩, 21) := ⟨⟨by decide +kernel, by decide +kernel⟩, List.mem_of_getElem? (i := 643) (by decide +kernel), List.mem_of_getElem? (i := 796) (by decide +kernel), List.mem_of_getElem? (i := 797) (by decide +kernel)⟩
theorem lw_p37 : lw_okq (⟨"CaskGaugeModel", "radius", "(II)I"⟩, 21) := ⟨⟨by decide +kernel, by decide +kernel⟩, List.mem_of_getElem? (i := 643) (by decide +kernel), List.mem_of_getElem? (i := 800) (by decide +kernel), List.mem_of_getElem? (i := 801) (by decide +kernel)⟩
theorem lw_p38 : lw_okq (⟨"CaskGaugeModel", "goes", "(II)I"⟩, 21) := ⟨⟨by decide +kernel, by decide +kernel⟩, List.mem_of_getElem? (i := 643) (by decide +kernel), List.mem_of_getElem? (i := 808) (by decide +kernel), List.mem_of_getElem? (i := 809) (by decide +kernel)⟩
theorem lw_p39 : lw_okq (⟨"CaskGaugeModel", "dipOf", "(I)I"⟩, 21) := ⟨⟨by decide +kernel, by decide +kernel⟩, List.mem_of_getElem? (i := 643) (by decide +kernel), List.mem_of_getElem? (i := 828) (by decide +kernel), List.mem_of_getElem? (i := 829) (by decide +kernel)⟩
theorem lw_p40 : lw_okq (⟨"CaskGaugeModel", "strength", "(I)F"⟩, 21) := ⟨⟨by decide +kernel, by decide +kernel⟩, List.mem_of_getElem? (i := 643) (by decide +kernel), List.mem_of_getElem? (i := 833) (by decide +kernel), List.mem_of_getElem? (i := 834) (by decide +kernel)⟩
theorem lw_p41 : lw_okq (⟨"CaskGaugeModel", "isHeight", "(II)Z"⟩, 21) := ⟨⟨by decide +kernel, by decide +kernel⟩, List.mem_of_getElem? (i := 643) (by decide +kernel), List.mem_of_getElem? (i := 845) (by decide +kernel), List.mem_of_getElem? (i := 846) (by decide +kernel)⟩
theorem lw_p42 : lw_okq (⟨"CaskGaugeModel", "mostBy", "(III)I"⟩, 21) := ⟨⟨by decide +kernel, by decide +kernel⟩, List.mem_of_getElem? (i := 643) (by decide +kernel), List.mem_of_getElem? (i := 865) (by decide +kernel), List.mem_of_getElem? (i := 866) (by decide +kernel)⟩
theorem lw_p43 : lw_okq (⟨"CaskGaugeModel", "strongest", "()I"⟩, 21) := ⟨⟨by decide +kernel, by decide +kernel⟩, List.mem_of_getElem? (i := 643) (by decide +kernel), List.mem_of_getElem? (i := 873) (by decide +kernel), List.mem_of_getElem? (i := 874) (by decide +kernel)⟩
theorem lw_p44 : lw_okq (⟨"CaskGaugeModel", "mean", "()I"⟩, 21) := ⟨⟨by decide +kernel, by decide +kernel⟩, List.mem_of_getElem? (i := 643) (by decide +kernel), List.mem_of_getElem? (i := 877) (by decide +kernel), List.mem_of_getElem? (i := 878) (by decide +kernel)⟩
theorem lw_p45 : lw_okq (⟨"CaskGaugeModel", "suspects", "()I"⟩, 21) := ⟨⟨by decide +kernel, by decide +kernel⟩, List.mem_of_getElem? (i := 643) (by decide +kernel), List.mem_of_getElem? (i := 894) (by decide +kernel), List.mem_of_getElem? (i := 895) (by decide +kernel)⟩
theorem lw_p46 : lw_okq (⟨"CaskGaugeModel", "laysDips", "()V"⟩, 21) := ⟨⟨by decide +kernel, by decide +kernel⟩, List.mem_of_getElem? (i := 643) (by decide +kernel), List.mem_of_getElem? (i := 902) (by decide +kernel), List.mem_of_getElem? (i := 903) (by decide +kernel)⟩
theorem lw_p47 : lw_okq (⟨"CaskGaugeModel", "alike", "(II)I"⟩, 21) := ⟨⟨by decide +kernel, by decide +kernel⟩, List.mem_of_getElem? (i := 643) (by decide +kernel), List.mem_of_getElem? (i := 906) (by decide +kernel), List.mem_of_getElem? (i := 907) (by decide +kernel)⟩
def lw_privs_3 : List (MethodName × Nat) := [(⟨"CaskGaugeModel", "hold", "(I)I"⟩, 21), (⟨"CaskGaugeModel", "laysNow", "(I)V"⟩, 21), (⟨"CaskGaugeModel", "of", "(II)I"⟩, 21), (⟨"CaskGaugeModel", "lays", "(IZ)V"⟩, 21), (⟨"CaskGaugeModel", "cellsOf", "(III)I"⟩, 21), (⟨"CaskGaugeModel", "radius", "(II)I"⟩, 21), (⟨"CaskGaugeModel", "goes", "(II)I"⟩, 21), (⟨"CaskGaugeModel", "dipOf", "(I)I"⟩, 21), (⟨"CaskGaugeModel", "strength", "(I)F"⟩, 21), (⟨"CaskGaugeModel", "isHeight", "(II)Z"⟩, 21), (⟨"CaskGaugeModel", "mostBy", "(III)I"⟩, 21), (⟨"CaskGaugeModel", "strongest", "()I"⟩, 21), (⟨"CaskGaugeModel", "mean", "()I"⟩, 21), (⟨"CaskGaugeModel", "suspects", "()I"⟩, 21), (⟨"CaskGaugeModel", "laysDips", "()V"⟩, 21), (⟨"CaskGaugeModel", "alike", "(II)I"⟩, 21)]
theorem lw_r3 : ∀ q ∈ lw_privs_3, lw_okq q := List.forall_mem_cons.mpr ⟨lw_p32, List.forall_mem_cons.mpr ⟨lw_p33, List.forall_mem_cons.mpr ⟨lw_p34, List.forall_mem_cons.mpr ⟨lw_p35, List.forall_mem_cons.mpr ⟨lw_p36, List.forall_mem_cons.mpr ⟨lw_p37, List.forall_mem_cons.mpr ⟨lw_p38, List.forall_mem_cons.mpr ⟨lw_p39, List.forall_mem_cons.mpr ⟨lw_p40, List.forall_mem_cons.mpr ⟨lw_p41, List.forall_mem_cons.mpr ⟨lw_p42, List.forall_mem_cons.mpr ⟨lw_p43, List.forall_mem_cons.mpr ⟨lw_p44, List.forall_mem_cons.mpr ⟨lw_p45, List.forall_mem_cons.mpr ⟨lw_p46, List.forall_mem_cons.mpr ⟨lw_p47, fun _ h => absurd h List.not_mem_nil⟩⟩⟩⟩⟩⟩⟩⟩⟩⟩⟩⟩⟩⟩⟩⟩
theorem lw_p48 : lw_okq (⟨"CaskGaugeModel", "sum", "(I)I"⟩, 21) := ⟨⟨by decide +kernel, by decide +kernel⟩, List.mem_of_getElem? (i := 643) (by decide +kernel), List.mem_of_getElem? (i := 922) (by decide +kernel), List.mem_of_getElem? (i := 923) (by decide +kernel)⟩
def lw_privs_4 : List (MethodName × Nat) := [(⟨"CaskGaugeModel", "sum", "(I)I"⟩, 21)]
theorem lw_r4 : ∀ q ∈ lw_privs_4, lw_okq q := List.forall_mem_cons.mpr ⟨lw_p48, fun _ h => absurd h List.not_mem_nil⟩
def lw_privs : List (MethodName × Nat) := lw_privs_1 ++ (lw_privs_2 ++ (lw_privs_3 ++ (lw_privs_4)))
def lw_tbl : List Cond := k2_sels lw_privs ++ tables_1
theorem lw_privs_ok : ∀ q ∈ lw_privs, lw_okq q := by
  show ∀ q ∈ lw_privs_1 ++ (lw_privs_2 ++ (lw_privs_3 ++ (lw_privs_4))), lw_okq q
  exact List.forall_mem_append.mpr ⟨lw_r1, List.forall_mem_append.mpr ⟨lw_r2, List.forall_mem_append.mpr ⟨lw_r3, lw_r4⟩⟩⟩
/-- the streams that the claim lets the run draw from -/
abbrev lw_cs : List Choice := [Jvm.Choice.named "NaN.bits"]
theorem lw_bits : nanBits ∈ lw_cs := by first | decide | exact List.mem_cons_self | simp [lw_cs, nanBits]
end
section
def RX0 : String := "CaskGauge$Cask"
def TX0 : u_T := fun k => match k with
  | 0 => ("CaskGauge$Cask", "slices", "I", false)
  | 1 => ("CaskGauge$Cask", "head", "I", false)
  | 2 => ("CaskGauge$Cask", "belly", "I", false)
  | 3 => ("CaskGauge$Cask", "lies", "Z", false)
  | 4 => ("CaskGauge$Cask", "wine", "I", false)
  | _ => ("CaskGauge$Cask", "spirit", "I", false)
def tyX0 : Nat → FieldType := fun k => match k with
  | 0 => .int
  | 1 => .int
  | 2 => .int
  | 3 => .boolean
  | 4 => .int
  | _ => .int
abbrev wsX00 : List Cond := u_ws RX0 TX0 6
theorem nmX0 : ∀ a, a < 6 → ∀ b, b < 6 → a ≠ b → (TX0 a).2.1 ≠ (TX0 b).2.1 := by decide +kernel
theorem tyX0_ok : ∀ k, k < 6 → parseFieldDescriptor (TX0 k).2.2.1 = some (tyX0 k) := by decide +kernel
abbrev cX0_init : ByteArray := prog_2_method_1_code
def yX0_init : MethodName := ⟨RX0, "<init>", "()V"⟩
abbrev cX0_becomeNew : ByteArray := prog_2_method_2_code
def yX0_becomeNew : MethodName := ⟨RX0, "becomeNew", "(III)V"⟩
abbrev cX0_copyFrom : ByteArray := prog_2_method_3_code
def yX0_copyFrom : MethodName := ⟨RX0, "copyFrom", "(LCaskGauge$Cask;)V"⟩
abbrev cX0_radiusOf : ByteArray := prog_2_method_4_code
def yX0_radiusOf : MethodName := ⟨RX0, "radiusOf", "(I)I"⟩
abbrev cX0_cellsOf : ByteArray := prog_2_method_5_code
def yX0_cellsOf : MethodName := ⟨RX0, "cellsOf", "(II)I"⟩
abbrev cX0_takeIn : ByteArray := prog_2_method_6_code
def yX0_takeIn : MethodName := ⟨RX0, "takeIn", "(II)V"⟩
abbrev cX0_giveOut : ByteArray := prog_2_method_7_code
def yX0_giveOut : MethodName := ⟨RX0, "giveOut", "(I)I"⟩
abbrev cX0_strength : ByteArray := prog_2_method_8_code
def yX0_strength : MethodName := ⟨RX0, "strength", "()F"⟩
def RX1 : String := "CaskGauge$Cellar"
def TX1 : u_T := fun k => match k with
  | 0 => ("CaskGauge$Cellar", "casks", "[LCaskGauge$Cask;", true)
  | _ => ("CaskGauge$Cellar", "size", "I", false)
def tyX1 : Nat → FieldType := fun k => match k with
  | 0 => .array (.object "CaskGauge$Cask")
  | _ => .int
abbrev wsX10 : List Cond := u_ws RX1 TX1 2
theorem nmX1 : ∀ a, a < 2 → ∀ b, b < 2 → a ≠ b → (TX1 a).2.1 ≠ (TX1 b).2.1 := by decide +kernel
theorem tyX1_ok : ∀ k, k < 2 → parseFieldDescriptor (TX1 k).2.2.1 = some (tyX1 k) := by decide +kernel
abbrev cX1_init : ByteArray := prog_3_method_1_code
def yX1_init : MethodName := ⟨RX1, "<init>", "()V"⟩
abbrev cX1_has : ByteArray := prog_3_method_2_code
def yX1_has : MethodName := ⟨RX1, "has", "(I)Z"⟩
abbrev cX1_empty : ByteArray := prog_3_method_3_code
def yX1_empty : MethodName := ⟨RX1, "empty", "()V"⟩
abbrev cX1_add : ByteArray := prog_3_method_4_code
def yX1_add : MethodName := ⟨RX1, "add", "(III)Z"⟩
abbrev cX1_copyFrom : ByteArray := prog_3_method_5_code
def yX1_copyFrom : MethodName := ⟨RX1, "copyFrom", "(LCaskGauge$Cellar;)V"⟩
abbrev cX1_allWine : ByteArray := prog_3_method_6_code
def yX1_allWine : MethodName := ⟨RX1, "allWine", "()I"⟩
abbrev cX1_allSpirit : ByteArray := prog_3_method_7_code
def yX1_allSpirit : MethodName := ⟨RX1, "allSpirit", "()I"⟩
abbrev cX1_strongest : ByteArray := prog_3_method_8_code
def yX1_strongest : MethodName := ⟨RX1, "strongest", "()I"⟩
abbrev cX1_meanStrength : ByteArray := prog_3_method_9_code
def yX1_meanStrength : MethodName := ⟨RX1, "meanStrength", "()F"⟩
def RX2 : String := "CaskGauge$Levels"
def TX2 : u_T := fun k => match k with
  | 0 => ("CaskGauge$Levels", "lying", "Z", true)
  | 1 => ("CaskGauge$Levels", "amounts", "[I", true)
  | 2 => ("CaskGauge$Levels", "slices", "I", false)
  | 3 => ("CaskGauge$Levels", "head", "I", false)
  | 4 => ("CaskGauge$Levels", "belly", "I", false)
  | _ => ("CaskGauge$Levels", "top", "I", false)
def tyX2 : Nat → FieldType := fun k => match k with
  | 0 => .boolean
  | 1 => .array .int
  | 2 => .int
  | 3 => .int
  | 4 => .int
  | _ => .int
abbrev wsX20 : List Cond := u_ws RX2 TX2 6
theorem nmX2 : ∀ a, a < 6 → ∀ b, b < 6 → a ≠ b → (TX2 a).2.1 ≠ (TX2 b).2.1 := by decide +kernel
theorem tyX2_ok : ∀ k, k < 6 → parseFieldDescriptor (TX2 k).2.2.1 = some (tyX2 k) := by decide +kernel
abbrev cX2_init : ByteArray := prog_4_method_1_code
def yX2_init : MethodName := ⟨RX2, "<init>", "(Z)V"⟩
abbrev cX2_measure : ByteArray := prog_4_method_2_code
def yX2_measure : MethodName := ⟨RX2, "measure", "(LCaskGauge$Cask;)V"⟩
abbrev cX2_addAhead : ByteArray := prog_4_method_3_code
def yX2_addAhead : MethodName := ⟨RX2, "addAhead", "(II)V"⟩
abbrev cX2_reach : ByteArray := prog_4_method_4_code
def yX2_reach : MethodName := ⟨RX2, "reach", "(I)Z"⟩
abbrev cX2_amountAt : ByteArray := prog_4_method_5_code
def yX2_amountAt : MethodName := ⟨RX2, "amountAt", "(I)I"⟩
abbrev cX2_hold : ByteArray := prog_4_method_6_code
def yX2_hold : MethodName := ⟨RX2, "hold", "()I"⟩
abbrev cX2_leastDip : ByteArray := prog_4_method_7_code
def yX2_leastDip : MethodName := ⟨RX2, "leastDip", "(I)I"⟩
abbrev cX2_leastDipFrom : ByteArray := prog_4_method_8_code
def yX2_leastDipFrom : MethodName := ⟨RX2, "leastDipFrom", "(II)I"⟩
abbrev cX2_markAt : ByteArray := prog_4_method_9_code
def yX2_markAt : MethodName := ⟨RX2, "markAt", "(II)I"⟩
def RX3 : String := "CaskGauge$Past"
def TX3 : u_T := fun k => match k with
  | 0 => ("CaskGauge$Past", "cellars", "[LCaskGauge$Cellar;", true)
  | 1 => ("CaskGauge$Past", "latest", "I", false)
  | _ => ("CaskGauge$Past", "size", "I", false)
def tyX3 : Nat → FieldType := fun k => match k with
  | 0 => .array (.object "CaskGauge$Cellar")
  | 1 => .int
  | _ => .int
abbrev wsX30 : List Cond := u_ws RX3 TX3 3
theorem nmX3 : ∀ a, a < 3 → ∀ b, b < 3 → a ≠ b → (TX3 a).2.1 ≠ (TX3 b).2.1 := by decide +kernel
theorem tyX3_ok : ∀ k, k < 3 → parseFieldDescriptor (TX3 k).2.2.1 = some (tyX3 k) := by decide +kernel
abbrev cX3_init : ByteArray := prog_5_method_1_code
def yX3_init : MethodName := ⟨RX3, "<init>", "()V"⟩
abbrev cX3_remember : ByteArray := prog_5_method_2_code
def yX3_remember : MethodName := ⟨RX3, "remember", "(LCaskGauge$Cellar;)V"⟩
abbrev cX3_recallInto : ByteArray := prog_5_method_3_code
def yX3_recallInto : MethodName := ⟨RX3, "recallInto", "(LCaskGauge$Cellar;)Z"⟩
def RX4 : String := "CaskGauge$Reader"
def TX4 : u_T := fun k => match k with
  | 0 => ("CaskGauge$Reader", "told", "LCaskGauge$Cellar;", true)
  | 1 => ("CaskGauge$Reader", "items", "I", false)
  | 2 => ("CaskGauge$Reader", "text", "LCaskGauge$Text;", true)
  | _ => ("CaskGauge$Reader", "token", "I", false)
def tyX4 : Nat → FieldType := fun k => match k with
  | 0 => .object "CaskGauge$Cellar"
  | 1 => .int
  | 2 => .object "CaskGauge$Text"
  | _ => .int
abbrev wsX40 : List Cond := u_ws RX4 TX4 4
theorem nmX4 : ∀ a, a < 4 → ∀ b, b < 4 → a ≠ b → (TX4 a).2.1 ≠ (TX4 b).2.1 := by decide +kernel
theorem tyX4_ok : ∀ k, k < 4 → parseFieldDescriptor (TX4 k).2.2.1 = some (tyX4 k) := by decide +kernel
abbrev cX4_init : ByteArray := prog_6_method_1_code
def yX4_init : MethodName := ⟨RX4, "<init>", "(LCaskGauge$Text;)V"⟩
abbrev cX4_readAll : ByteArray := prog_6_method_2_code
def yX4_readAll : MethodName := ⟨RX4, "readAll", "()Z"⟩
abbrev cX4_faultPlace : ByteArray := prog_6_method_3_code
def yX4_faultPlace : MethodName := ⟨RX4, "faultPlace", "()I"⟩
abbrev cX4_readItem : ByteArray := prog_6_method_4_code
def yX4_readItem : MethodName := ⟨RX4, "readItem", "()Z"⟩
abbrev cX4_readCask : ByteArray := prog_6_method_5_code
def yX4_readCask : MethodName := ⟨RX4, "readCask", "()Z"⟩
abbrev cX4_readStands : ByteArray := prog_6_method_6_code
def yX4_readStands : MethodName := ⟨RX4, "readStands", "()Z"⟩
abbrev cX4_readNumber : ByteArray := prog_6_method_7_code
def yX4_readNumber : MethodName := ⟨RX4, "readNumber", "(II)Z"⟩
abbrev cX4_readItemEnd : ByteArray := prog_6_method_8_code
def yX4_readItemEnd : MethodName := ⟨RX4, "readItemEnd", "()Z"⟩
abbrev cX4_step : ByteArray := prog_6_method_9_code
def yX4_step : MethodName := ⟨RX4, "step", "()V"⟩
def RX5 : String := "CaskGauge$Sharing"
def TX5 : u_T := fun k => match k with
  | 0 => ("CaskGauge$Sharing", "greatest", "I", false)
  | 1 => ("CaskGauge$Sharing", "y", "I", false)
  | 2 => ("CaskGauge$Sharing", "z", "I", false)
  | 3 => ("CaskGauge$Sharing", "first", "I", false)
  | _ => ("CaskGauge$Sharing", "last", "I", false)
def tyX5 : Nat → FieldType := fun k => match k with
  | 0 => .int
  | 1 => .int
  | 2 => .int
  | 3 => .int
  | _ => .int
abbrev wsX50 : List Cond := u_ws RX5 TX5 5
theorem nmX5 : ∀ a, a < 5 → ∀ b, b < 5 → a ≠ b → (TX5 a).2.1 ≠ (TX5 b).2.1 := by decide +kernel
theorem tyX5_ok : ∀ k, k < 5 → parseFieldDescriptor (TX5 k).2.2.1 = some (tyX5 k) := by decide +kernel
abbrev cX5_init : ByteArray := prog_7_method_1_code
def yX5_init : MethodName := ⟨RX5, "<init>", "()V"⟩
abbrev cX5_findFairest : ByteArray := prog_7_method_2_code
def yX5_findFairest : MethodName := ⟨RX5, "findFairest", "(LCaskGauge$Levels;II)V"⟩
abbrev cX5_weigh : ByteArray := prog_7_method_3_code
def yX5_weigh : MethodName := ⟨RX5, "weigh", "(LCaskGauge$Levels;III)V"⟩
def RX6 : String := "CaskGauge$Sightings"
def TX6 : u_T := fun k => match k with
  | 0 => ("CaskGauge$Sightings", "amounts", "[I", true)
  | 1 => ("CaskGauge$Sightings", "dips", "[I", true)
  | _ => ("CaskGauge$Sightings", "size", "I", false)
def tyX6 : Nat → FieldType := fun k => match k with
  | 0 => .array .int
  | 1 => .array .int
  | _ => .int
abbrev wsX60 : List Cond := u_ws RX6 TX6 3
theorem nmX6 : ∀ a, a < 3 → ∀ b, b < 3 → a ≠ b → (TX6 a).2.1 ≠ (TX6 b).2.1 := by decide +kernel
theorem tyX6_ok : ∀ k, k < 3 → parseFieldDescriptor (TX6 k).2.2.1 = some (tyX6 k) := by decide +kernel
abbrev cX6_init : ByteArray := prog_8_method_1_code
def yX6_init : MethodName := ⟨RX6, "<init>", "()V"⟩
abbrev cX6_add : ByteArray := prog_8_method_2_code
def yX6_add : MethodName := ⟨RX6, "add", "(II)Z"⟩
abbrev cX6_fits : ByteArray := prog_8_method_3_code
def yX6_fits : MethodName := ⟨RX6, "fits", "(LCaskGauge$Levels;)Z"⟩
def RX7 : String := "CaskGauge$Text"
def TX7 : u_T := fun k => match k with
  | 0 => ("CaskGauge$Text", "letters", "[I", true)
  | 1 => ("CaskGauge$Text", "length", "I", false)
  | 2 => ("CaskGauge$Text", "kinds", "[I", true)
  | 3 => ("CaskGauge$Text", "places", "[I", true)
  | _ => ("CaskGauge$Text", "values", "[I", true)
def tyX7 : Nat → FieldType := fun k => match k with
  | 0 => .array .int
  | 1 => .int
  | 2 => .array .int
  | 3 => .array .int
  | _ => .array .int
abbrev wsX70 : List Cond := u_ws RX7 TX7 5
theorem nmX7 : ∀ a, a < 5 → ∀ b, b < 5 → a ≠ b → (TX7 a).2.1 ≠ (TX7 b).2.1 := by decide +kernel
theorem tyX7_ok : ∀ k, k < 5 → parseFieldDescriptor (TX7 k).2.2.1 = some (tyX7 k) := by decide +kernel
abbrev cX7_init : ByteArray := prog_9_method_1_code
def yX7_init : MethodName := ⟨RX7, "<init>", "()V"⟩
abbrev cX7_add : ByteArray := prog_9_method_2_code
def yX7_add : MethodName := ⟨RX7, "add", "(I)Z"⟩
abbrev cX7_split : ByteArray := prog_9_method_3_code
def yX7_split : MethodName := ⟨RX7, "split", "()V"⟩
abbrev cX7_goesOn : ByteArray := prog_9_method_4_code
def yX7_goesOn : MethodName := ⟨RX7, "goesOn", "(I)Z"⟩
abbrev cX7_putKind : ByteArray := prog_9_method_5_code
def yX7_putKind : MethodName := ⟨RX7, "putKind", "(II)V"⟩
abbrev cX7_kindOfWord : ByteArray := prog_9_method_6_code
def yX7_kindOfWord : MethodName := ⟨RX7, "kindOfWord", "(II)I"⟩
abbrev cX7_isWord : ByteArray := prog_9_method_7_code
def yX7_isWord : MethodName := ⟨RX7, "isWord", "(Ljava/lang/String;II)Z"⟩
abbrev cX7_kindOfNumber : ByteArray := prog_9_method_8_code
def yX7_kindOfNumber : MethodName := ⟨RX7, "kindOfNumber", "(II)I"⟩
abbrev cX7_valueOf : ByteArray := prog_9_method_9_code
def yX7_valueOf : MethodName := ⟨RX7, "valueOf", "(II)I"⟩
abbrev cX7_isSmallLetter : ByteArray := prog_9_method_10_code
def yX7_isSmallLetter : MethodName := ⟨RX7, "isSmallLetter", "(I)Z"⟩
abbrev cX7_isFigure : ByteArray := prog_9_method_11_code
def yX7_isFigure : MethodName := ⟨RX7, "isFigure", "(I)Z"⟩
def RX8 : String := "CaskGauge"
def TX8 : u_T := fun k => match k with
  | 0 => ("CaskGauge", "text", "LCaskGauge$Text;", true)
  | 1 => ("CaskGauge", "reader", "LCaskGauge$Reader;", true)
  | 2 => ("CaskGauge", "cellar", "LCaskGauge$Cellar;", true)
  | 3 => ("CaskGauge", "past", "LCaskGauge$Past;", true)
  | 4 => ("CaskGauge", "images", "[LCaskGauge$Cellar;", true)
  | 5 => ("CaskGauge", "kept", "[Z", true)
  | 6 => ("CaskGauge", "seen", "LCaskGauge$Sightings;", true)
  | 7 => ("CaskGauge", "lying", "[LCaskGauge$Levels;", true)
  | 8 => ("CaskGauge", "standing", "[LCaskGauge$Levels;", true)
  | 9 => ("CaskGauge", "sharing", "LCaskGauge$Sharing;", true)
  | _ => ("CaskGauge", "askedDips", "[I", true)
def tyX8 : Nat → FieldType := fun k => match k with
  | 0 => .object "CaskGauge$Text"
  | 1 => .object "CaskGauge$Reader"
  | 2 => .object "CaskGauge$Cellar"
  | 3 => .object "CaskGauge$Past"
  | 4 => .array (.object "CaskGauge$Cellar")
  | 5 => .array .boolean
  | 6 => .object "CaskGauge$Sightings"
  | 7 => .array (.object "CaskGauge$Levels")
  | 8 => .array (.object "CaskGauge$Levels")
  | 9 => .object "CaskGauge$Sharing"
  | _ => .array .int
abbrev wsX80 : List Cond := u_ws RX8 TX8 11
theorem nmX8 : ∀ a, a < 11 → ∀ b, b < 11 → a ≠ b → (TX8 a).2.1 ≠ (TX8 b).2.1 := by decide +kernel
theorem tyX8_ok : ∀ k, k < 11 → parseFieldDescriptor (TX8 k).2.2.1 = some (tyX8 k) := by decide +kernel
abbrev cX8_init : ByteArray := prog_1_method_1_code
def yX8_init : MethodName := ⟨RX8, "<init>", "()V"⟩
abbrev cX8_type : ByteArray := prog_1_method_2_code
def yX8_type : MethodName := ⟨RX8, "type", "(I)I"⟩
abbrev cX8_clear : ByteArray := prog_1_method_3_code
def yX8_clear : MethodName := ⟨RX8, "clear", "()I"⟩
abbrev cX8_tells : ByteArray := prog_1_method_4_code
def yX8_tells : MethodName := ⟨RX8, "tells", "()I"⟩
abbrev cX8_fills : ByteArray := prog_1_method_5_code
def yX8_fills : MethodName := ⟨RX8, "fills", "(III)I"⟩
abbrev cX8_draws : ByteArray := prog_1_method_6_code
def yX8_draws : MethodName := ⟨RX8, "draws", "(II)I"⟩
abbrev cX8_pours : ByteArray := prog_1_method_7_code
def yX8_pours : MethodName := ⟨RX8, "pours", "(III)I"⟩
abbrev cX8_turnsOver : ByteArray := prog_1_method_8_code
def yX8_turnsOver : MethodName := ⟨RX8, "turnsOver", "(I)I"⟩
abbrev cX8_undo : ByteArray := prog_1_method_9_code
def yX8_undo : MethodName := ⟨RX8, "undo", "()I"⟩
abbrev cX8_cask : ByteArray := prog_1_method_10_code
def yX8_cask : MethodName := ⟨RX8, "cask", "(II)I"⟩
abbrev cX8_slice : ByteArray := prog_1_method_11_code
def yX8_slice : MethodName := ⟨RX8, "slice", "(III)I"⟩
abbrev cX8_under : ByteArray := prog_1_method_12_code
def yX8_under : MethodName := ⟨RX8, "under", "(II)I"⟩
abbrev cX8_dip : ByteArray := prog_1_method_13_code
def yX8_dip : MethodName := ⟨RX8, "dip", "(II)I"⟩
abbrev cX8_stick : ByteArray := prog_1_method_14_code
def yX8_stick : MethodName := ⟨RX8, "stick", "(III)I"⟩
abbrev cX8_known : ByteArray := prog_1_method_15_code
def yX8_known : MethodName := ⟨RX8, "known", "(III)I"⟩
abbrev cX8_shares : ByteArray := prog_1_method_16_code
def yX8_shares : MethodName := ⟨RX8, "shares", "(III)I"⟩
abbrev cX8_all : ByteArray := prog_1_method_17_code
def yX8_all : MethodName := ⟨RX8, "all", "(I)I"⟩
abbrev cX8_sees : ByteArray := prog_1_method_18_code
def yX8_sees : MethodName := ⟨RX8, "sees", "(II)I"⟩
abbrev cX8_forget : ByteArray := prog_1_method_19_code
def yX8_forget : MethodName := ⟨RX8, "forget", "()I"⟩
abbrev cX8_which : ByteArray := prog_1_method_20_code
def yX8_which : MethodName := ⟨RX8, "which", "()I"⟩
abbrev cX8_ask : ByteArray := prog_1_method_21_code
def yX8_ask : MethodName := ⟨RX8, "ask", "()I"⟩
abbrev cX8_keep : ByteArray := prog_1_method_22_code
def yX8_keep : MethodName := ⟨RX8, "keep", "(I)I"⟩
abbrev cX8_back : ByteArray := prog_1_method_23_code
def yX8_back : MethodName := ⟨RX8, "back", "(I)I"⟩
abbrev cX8_count : ByteArray := prog_1_method_24_code
def yX8_count : MethodName := ⟨RX8, "count", "(I)I"⟩
abbrev cX8_levelsOf : ByteArray := prog_1_method_25_code
def yX8_levelsOf : MethodName := ⟨RX8, "levelsOf", "(I)LCaskGauge$Levels;"⟩
abbrev cX8_lyingLevelsOf : ByteArray := prog_1_method_26_code
def yX8_lyingLevelsOf : MethodName := ⟨RX8, "lyingLevelsOf", "(I)LCaskGauge$Levels;"⟩
abbrev cX8_roomIn : ByteArray := prog_1_method_27_code
def yX8_roomIn : MethodName := ⟨RX8, "roomIn", "(I)I"⟩
abbrev cX8_inThousandths : ByteArray := prog_1_method_28_code
def yX8_inThousandths : MethodName := ⟨RX8, "inThousandths", "(F)I"⟩
abbrev cX8_startAsking : ByteArray := prog_1_method_29_code
def yX8_startAsking : MethodName := ⟨RX8, "startAsking", "()V"⟩
abbrev cX8_raiseAskedDips : ByteArray := prog_1_method_30_code
def yX8_raiseAskedDips : MethodName := ⟨RX8, "raiseAskedDips", "(I)Z"⟩
abbrev cX8_mostAlike : ByteArray := prog_1_method_31_code
def yX8_mostAlike : MethodName := ⟨RX8, "mostAlike", "(I)I"⟩
def RX9 : String := "CaskGaugeModel"
def TX9 : u_T := fun k => match k with
  | 0 => ("CaskGaugeModel", "thrown", "I", false)
  | 1 => ("CaskGaugeModel", "s", "[I", true)
  | 2 => ("CaskGaugeModel", "draft", "[I", true)
  | 3 => ("CaskGaugeModel", "past", "[I", true)
  | 4 => ("CaskGaugeModel", "undos", "I", false)
  | 5 => ("CaskGaugeModel", "kept", "[I", true)
  | 6 => ("CaskGaugeModel", "isKept", "[Z", true)
  | 7 => ("CaskGaugeModel", "facts", "[I", true)
  | 8 => ("CaskGaugeModel", "manyFacts", "I", false)
  | 9 => ("CaskGaugeModel", "text", "[B", true)
  | 10 => ("CaskGaugeModel", "typed", "I", false)
  | 11 => ("CaskGaugeModel", "from", "I", false)
  | 12 => ("CaskGaugeModel", "to", "I", false)
  | 13 => ("CaskGaugeModel", "token", "I", false)
  | 14 => ("CaskGaugeModel", "number", "I", false)
  | 15 => ("CaskGaugeModel", "fault", "I", false)
  | 16 => ("CaskGaugeModel", "under", "[I", true)
  | 17 => ("CaskGaugeModel", "top", "I", false)
  | 18 => ("CaskGaugeModel", "first", "I", false)
  | 19 => ("CaskGaugeModel", "last", "I", false)
  | _ => ("CaskGaugeModel", "dips", "[I", true)
def tyX9 : Nat → FieldType := fun k => match k with
  | 0 => .int
  | 1 => .array .int
  | 2 => .array .int
  | 3 => .array .int
  | 4 => .int
  | 5 => .array .int
  | 6 => .array .boolean
  | 7 => .array .int
  | 8 => .int
  | 9 => .array .byte
  | 10 => .int
  | 11 => .int
  | 12 => .int
  | 13 => .int
  | 14 => .int
  | 15 => .int
  | 16 => .array .int
  | 17 => .int
  | 18 => .int
  | 19 => .int
  | _ => .array .int
abbrev wsX90 : List Cond := u_ws RX9 TX9 21
theorem nmX9 : ∀ a, a < 21 → ∀ b, b < 21 → a ≠ b → (TX9 a).2.1 ≠ (TX9 b).2.1 := by decide +kernel
theorem tyX9_ok : ∀ k, k < 21 → parseFieldDescriptor (TX9 k).2.2.1 = some (tyX9 k) := by decide +kernel
abbrev cX9_init : ByteArray := prog_11_method_1_code
def yX9_init : MethodName := ⟨RX9, "<init>", "()V"⟩
abbrev cX9_in : ByteArray := prog_11_method_3_code
def yX9_in : MethodName := ⟨RX9, "in", "(III)Z"⟩
abbrev cX9_type : ByteArray := prog_11_method_4_code
def yX9_type : MethodName := ⟨RX9, "type", "(I)I"⟩
abbrev cX9_clear : ByteArray := prog_11_method_5_code
def yX9_clear : MethodName := ⟨RX9, "clear", "()I"⟩
abbrev cX9_at : ByteArray := prog_11_method_6_code
def yX9_at : MethodName := ⟨RX9, "at", "(I)I"⟩
abbrev cX9_isCaskWord : ByteArray := prog_11_method_7_code
def yX9_isCaskWord : MethodName := ⟨RX9, "isCaskWord", "()Z"⟩
abbrev cX9_isStandsWord : ByteArray := prog_11_method_8_code
def yX9_isStandsWord : MethodName := ⟨RX9, "isStandsWord", "()Z"⟩
abbrev cX9_takesFigures : ByteArray := prog_11_method_9_code
def yX9_takesFigures : MethodName := ⟨RX9, "takesFigures", "()V"⟩
abbrev cX9_steps : ByteArray := prog_11_method_10_code
def yX9_steps : MethodName := ⟨RX9, "steps", "()V"⟩
abbrev cX9_takes : ByteArray := prog_11_method_11_code
def yX9_takes : MethodName := ⟨RX9, "takes", "(Z)V"⟩
abbrev cX9_numberIn : ByteArray := prog_11_method_12_code
def yX9_numberIn : MethodName := ⟨RX9, "numberIn", "(II)I"⟩
abbrev cX9_readsCask : ByteArray := prog_11_method_13_code
def yX9_readsCask : MethodName := ⟨RX9, "readsCask", "()V"⟩
abbrev cX9_readsStands : ByteArray := prog_11_method_14_code
def yX9_readsStands : MethodName := ⟨RX9, "readsStands", "()V"⟩
abbrev cX9_reads : ByteArray := prog_11_method_15_code
def yX9_reads : MethodName := ⟨RX9, "reads", "()I"⟩
abbrev cX9_tells : ByteArray := prog_11_method_16_code
def yX9_tells : MethodName := ⟨RX9, "tells", "()I"⟩
abbrev cX9_isCask : ByteArray := prog_11_method_17_code
def yX9_isCask : MethodName := ⟨RX9, "isCask", "(I)Z"⟩
abbrev cX9_of : ByteArray := prog_11_method_18_code
def yX9_of : MethodName := ⟨RX9, "of", "(II)I"⟩
abbrev cX9_radius : ByteArray := prog_11_method_19_code
def yX9_radius : MethodName := ⟨RX9, "radius", "(II)I"⟩
abbrev cX9_cellsOf : ByteArray := prog_11_method_20_code
def yX9_cellsOf : MethodName := ⟨RX9, "cellsOf", "(III)I"⟩
abbrev cX9_lays : ByteArray := prog_11_method_21_code
def yX9_lays : MethodName := ⟨RX9, "lays", "(IZ)V"⟩
abbrev cX9_laysNow : ByteArray := prog_11_method_22_code
def yX9_laysNow : MethodName := ⟨RX9, "laysNow", "(I)V"⟩
abbrev cX9_dipOf : ByteArray := prog_11_method_23_code
def yX9_dipOf : MethodName := ⟨RX9, "dipOf", "(I)I"⟩
abbrev cX9_hold : ByteArray := prog_11_method_24_code
def yX9_hold : MethodName := ⟨RX9, "hold", "(I)I"⟩
abbrev cX9_notes : ByteArray := prog_11_method_25_code
def yX9_notes : MethodName := ⟨RX9, "notes", "()V"⟩
abbrev cX9_fills : ByteArray := prog_11_method_26_code
def yX9_fills : MethodName := ⟨RX9, "fills", "(III)I"⟩
abbrev cX9_goes : ByteArray := prog_11_method_27_code
def yX9_goes : MethodName := ⟨RX9, "goes", "(II)I"⟩
abbrev cX9_draws : ByteArray := prog_11_method_28_code
def yX9_draws : MethodName := ⟨RX9, "draws", "(II)I"⟩
abbrev cX9_pours : ByteArray := prog_11_method_29_code
def yX9_pours : MethodName := ⟨RX9, "pours", "(III)I"⟩
abbrev cX9_turnsOver : ByteArray := prog_11_method_30_code
def yX9_turnsOver : MethodName := ⟨RX9, "turnsOver", "(I)I"⟩
abbrev cX9_undo : ByteArray := prog_11_method_31_code
def yX9_undo : MethodName := ⟨RX9, "undo", "()I"⟩
abbrev cX9_strength : ByteArray := prog_11_method_32_code
def yX9_strength : MethodName := ⟨RX9, "strength", "(I)F"⟩
abbrev cX9_cask : ByteArray := prog_11_method_33_code
def yX9_cask : MethodName := ⟨RX9, "cask", "(II)I"⟩
abbrev cX9_slice : ByteArray := prog_11_method_34_code
def yX9_slice : MethodName := ⟨RX9, "slice", "(III)I"⟩
abbrev cX9_isHeight : ByteArray := prog_11_method_35_code
def yX9_isHeight : MethodName := ⟨RX9, "isHeight", "(II)Z"⟩
abbrev cX9_under : ByteArray := prog_11_method_36_code
def yX9_under : MethodName := ⟨RX9, "under", "(II)I"⟩
abbrev cX9_dip : ByteArray := prog_11_method_37_code
def yX9_dip : MethodName := ⟨RX9, "dip", "(II)I"⟩
abbrev cX9_stick : ByteArray := prog_11_method_38_code
def yX9_stick : MethodName := ⟨RX9, "stick", "(III)I"⟩
abbrev cX9_known : ByteArray := prog_11_method_39_code
def yX9_known : MethodName := ⟨RX9, "known", "(III)I"⟩
abbrev cX9_mostBy : ByteArray := prog_11_method_40_code
def yX9_mostBy : MethodName := ⟨RX9, "mostBy", "(III)I"⟩
abbrev cX9_shares : ByteArray := prog_11_method_41_code
def yX9_shares : MethodName := ⟨RX9, "shares", "(III)I"⟩
abbrev cX9_strongest : ByteArray := prog_11_method_42_code
def yX9_strongest : MethodName := ⟨RX9, "strongest", "()I"⟩
abbrev cX9_mean : ByteArray := prog_11_method_43_code
def yX9_mean : MethodName := ⟨RX9, "mean", "()I"⟩
abbrev cX9_all : ByteArray := prog_11_method_44_code
def yX9_all : MethodName := ⟨RX9, "all", "(I)I"⟩
abbrev cX9_sees : ByteArray := prog_11_method_45_code
def yX9_sees : MethodName := ⟨RX9, "sees", "(II)I"⟩
abbrev cX9_forget : ByteArray := prog_11_method_46_code
def yX9_forget : MethodName := ⟨RX9, "forget", "()I"⟩
abbrev cX9_suspects : ByteArray := prog_11_method_47_code
def yX9_suspects : MethodName := ⟨RX9, "suspects", "()I"⟩
abbrev cX9_which : ByteArray := prog_11_method_48_code
def yX9_which : MethodName := ⟨RX9, "which", "()I"⟩
abbrev cX9_laysDips : ByteArray := prog_11_method_49_code
def yX9_laysDips : MethodName := ⟨RX9, "laysDips", "()V"⟩
abbrev cX9_alike : ByteArray := prog_11_method_50_code
def yX9_alike : MethodName := ⟨RX9, "alike", "(II)I"⟩
abbrev cX9_ask : ByteArray := prog_11_method_51_code
def yX9_ask : MethodName := ⟨RX9, "ask", "()I"⟩
abbrev cX9_keep : ByteArray := prog_11_method_52_code
def yX9_keep : MethodName := ⟨RX9, "keep", "(I)I"⟩
abbrev cX9_back : ByteArray := prog_11_method_53_code
def yX9_back : MethodName := ⟨RX9, "back", "(I)I"⟩
abbrev cX9_sum : ByteArray := prog_11_method_54_code
def yX9_sum : MethodName := ⟨RX9, "sum", "(I)I"⟩
abbrev cX9_count : ByteArray := prog_11_method_55_code
def yX9_count : MethodName := ⟨RX9, "count", "(I)I"⟩
def RJ6 : String := "java/lang/Integer"
abbrev cJ6_bitCount_0f7a4 : ByteArray := prog_12_method_49_code
def yJ6_bitCount_0f7a4 : MethodName := ⟨RJ6, "bitCount", "(I)I"⟩
def RJ9 : String := "java/lang/Math"
abbrev cJ9_max_7cf53 : ByteArray := prog_13_method_65_code
def yJ9_max_7cf53 : MethodName := ⟨RJ9, "max", "(II)I"⟩
abbrev cJ9_min_7cf53 : ByteArray := prog_13_method_69_code
def yJ9_min_7cf53 : MethodName := ⟨RJ9, "min", "(II)I"⟩
def RJ0 : String := "java/lang/String"
abbrev cJ0_length_8abf5 : ByteArray := prog_14_method_54_code
def yJ0_length_8abf5 : MethodName := ⟨RJ0, "length", "()I"⟩
abbrev cJ0_charAt_5068e : ByteArray := prog_14_method_56_code
def yJ0_charAt_5068e : MethodName := ⟨RJ0, "charAt", "(I)C"⟩
abbrev cJ0_coder_7d493 : ByteArray := prog_14_method_152_code
def yJ0_coder_7d493 : MethodName := ⟨RJ0, "coder", "()B"⟩
abbrev cJ0_isLatin1_aae02 : ByteArray := prog_14_method_154_code
def yJ0_isLatin1_aae02 : MethodName := ⟨RJ0, "isLatin1", "()Z"⟩
abbrev cJ0_checkIndex_df160 : ByteArray := prog_14_method_155_code
def yJ0_checkIndex_df160 : MethodName := ⟨RJ0, "checkIndex", "(II)V"⟩
def RJ1 : String := "java/lang/StringLatin1"
abbrev cJ1_charAt_3b067 : ByteArray := prog_15_method_2_code
def yJ1_charAt_3b067 : MethodName := ⟨RJ1, "charAt", "([BI)C"⟩
def RJ2 : String := "java/lang/StringUTF16"
abbrev cJ2_getChar_3b067 : ByteArray := prog_16_method_5_code
def yJ2_getChar_3b067 : MethodName := ⟨RJ2, "getChar", "([BI)C"⟩
abbrev cJ2_length_9d52b : ByteArray := prog_16_method_6_code
def yJ2_length_9d52b : MethodName := ⟨RJ2, "length", "([B)I"⟩
abbrev cJ2_charAt_3b067 : ByteArray := prog_16_method_83_code
def yJ2_charAt_3b067 : MethodName := ⟨RJ2, "charAt", "([BI)C"⟩
abbrev cJ2_checkIndex_2214a : ByteArray := prog_16_method_91_code
def yJ2_checkIndex_2214a : MethodName := ⟨RJ2, "checkIndex", "(I[B)V"⟩
def RJ3 : String := "jdk/internal/util/Preconditions"
abbrev cJ3_checkIndex_8e157 : ByteArray := prog_17_method_11_code
def yJ3_checkIndex_8e157 : MethodName := ⟨RJ3, "checkIndex", "(IILjava/util/function/BiFunction;)I"⟩
def RL : String := "CaskGaugeLaw"
abbrev cL_law : ByteArray := code
def yL_law : MethodName := ⟨RL, "law", "([I)Z"⟩
abbrev vwCl : List vw_C := [(RX0, TX0, 6), (RX1, TX1, 2), (RX2, TX2, 6), (RX3, TX3, 3), (RX4, TX4, 4), (RX5, TX5, 5), (RX6, TX6, 3), (RX7, TX7, 5), (RX8, TX8, 11), (RX9, TX9, 21)]
end
section

def lw_good : List Cond := lw_tbl.filter goodWord
theorem lw_good_in {w : Cond} (h : w ∈ lw_tbl) (hg : goodWord w = true) : w ∈ lw_good := List.mem_filter.mpr ⟨h, hg⟩
theorem lw_good_sub {w : Cond} (h : w ∈ lw_good) : w ∈ lw_tbl := (List.mem_filter.mp h).1
theorem lw_good_good {w : Cond} (h : w ∈ lw_good) : goodWord w = true := (List.mem_filter.mp h).2
/-- a cell's shape: (0, its class' number, its references) or (an array's type + 1, its length, its references) -/
abbrev sm_S : Type := Nat × Nat × List (Option Nat)
/-- what ints the cells hold: cell, slot -/
abbrev sm_I : Type := Nat → Nat → Int32
/-- where the cells lie: base, addresses, classes and slots, array classes, the strings' arrays -/
abbrev sm_G : Type := Nat × (Nat → Nat) × va_G × (Nat → ClassId) × (Nat → Nat)
abbrev sm_Z : Type := Nat × (Nat → Int32)
/-- a method: its name, code, locals, answer -/
abbrev sm_Mu : Type := MethodName × ByteArray × Nat × Option FieldType
abbrev sm_Qt : Type := Option Value → Nat → (Nat → sm_S) → sm_I → Prop
def sm_ft (c : Nat) : List Bool := match c with
  | 0 => [true, true, true, true, true, true]
  | 1 => [false, true]
  | 2 => [true, false, true, true, true, true]
  | 3 => [false, true, true]
  | 4 => [false, true, false, true]
  | 5 => [true, true, true, true, true]
  | 6 => [false, false, true]
  | 7 => [false, true, false, false, false]
  | 8 => [false, false, false, false, false, false, false, false, false, false, false]
  | 9 => [true, false, false, false, true, false, false, false, true, false, true, true, true, true, true, true, false, true, true, true, false]
  | _ => []
def sm_V (ad : Nat → Nat) : Value → Value
  | .ref a => .ref (ad a)
  | v => v
theorem sm_V_cat (ad : Nat → Nat) (v : Value) : (sm_V ad v).category = v.category := by cases v <;> rfl
def sm_F (ad : Nat → Nat) (c : Nat) (rs : List (Option Nat)) (f : Nat → Int32) : List Value := (List.range (sm_ft c).length).map fun k => if (sm_ft c).getD k false = true then .int (f k) else va_rf ((rs.getD k none).map ad)
def sm_E (ad : Nat → Nat) (g : Nat → ClassId) (q : sm_S) (f : Nat → Int32) : va_E := match q.1 with
  | 0 => .inr (q.2.1, sm_F ad q.2.1 q.2.2 f)
  | t + 1 => if t < 3 then .inl (g t, q.2.1, .inl f) else .inl (g t, q.2.1, .inr (.inr (.inr (.inr (fun j => (q.2.2.getD j none).map ad)))))
def sm_H (Γ : sm_G) (n : Nat) (sh : Nat → sm_S) (I : sm_I) (H : Heap) : Prop := H.size = Γ.1 + n ∧ n ≤ 1000000 ∧ ∀ a, a < n → va_at Γ.2.2.1 vwCl (Γ.2.1 a, sm_E Γ.2.1 Γ.2.2.2.1 (sh a) (I a)) H
def sm_ty (t : Nat) : FieldType := match t with
  | 0 => .int
  | 1 => .boolean
  | 2 => .byte
  | 3 => .object RX0
  | 4 => .object RX1
  | _ => .object RX2
abbrev sm_tys (g : Nat → ClassId) : List (ClassId × FieldType) := [(g 0, sm_ty 0), (g 1, sm_ty 1), (g 2, sm_ty 2), (g 3, sm_ty 3), (g 4, sm_ty 4), (g 5, sm_ty 5)]
def sm_N (U : State) : Prop := va_AO RX0 U ∧ va_AO RX1 U ∧ va_AO RX2 U ∧ va_Nw (.methodLinkNest RX1 17 yX0_init RX8) U ∧ va_Nw (.methodLinkNest RX8 68 yX5_init RX8) U
def sm_O (ζ : sm_Z) (Γ : sm_G) (U : State) (H : Heap) : Prop :=
  vk_R RX7 52 "cask" (Γ.2.1 1000001) U ∧ vk_R RX7 58 "stands" (Γ.2.1 1000002) U ∧
  vk_S 2 [4, 6] [[99, 97, 115, 107], [115, 116, 97, 110, 100, 115]] (fun i => Γ.2.1 (1000001 + i)) Γ.2.2.2.2 (fun q => Γ.1 ≤ q) U H ∧
  va_Z RJ0 "COMPACT_STRINGS" "Z" (.int 1) (fun q => Γ.1 ≤ q) U H ∧ va_Zq RJ3 "SIOOBE_FORMATTER" "Ljava/util/function/BiFunction;" (fun q => Γ.1 ≤ q) U H ∧
  (va_X (Γ.2.1 1000000) ζ.1 ζ.2 U H ∧ Γ.2.1 1000000 < Γ.1)
def sm_K (ζ : sm_Z) (Γ : sm_G) (U : State) : Prop := (∀ k, k < 1000000 → Γ.2.1 k = Γ.1 + k) ∧ va_K Γ.2.2.1 vwCl (sm_tys Γ.2.2.2.1) U ∧ sm_N U ∧ sm_O ζ Γ U U.heap ∧ Γ.1 ≤ U.heap.size
theorem sm_N.warm {s U : State} (hW : s.WarmedH U.vm) (h : sm_N s) : sm_N U := ⟨h.1.moved hW.alike, h.2.1.moved hW.alike, h.2.2.1.moved hW.alike, h.2.2.2.1.warmM hW, h.2.2.2.2.warmM hW⟩
theorem sm_N.same {s U : State} (hv : s.vm = U.vm) (h : sm_N s) : sm_N U := ⟨h.1.moved (by rw [hv]; exact Vm.Alike.refl _), h.2.1.moved (by rw [hv]; exact Vm.Alike.refl _), h.2.2.1.moved (by rw [hv]; exact Vm.Alike.refl _), h.2.2.2.1.same rfl hv, h.2.2.2.2.same rfl hv⟩
theorem sm_O.warm {ζ : sm_Z} {Γ : sm_G} {s U : State} {H H1 : Heap} (hW : s.WarmedH U.vm) (hz : Γ.1 ≤ H.size) (hk : ∀ a : Nat, a < H.size → ¬ Γ.1 ≤ a → H1[a]? = H[a]?) (h : sm_O ζ Γ s H) : sm_O ζ Γ U H1 := by
  obtain ⟨h1, h2, h3, h4, h5, h6, h7⟩ := h
  exact ⟨h1.warm hW, h2.warm hW, (h3.moved hW.alike).kept hk, (h4.moved hW.alike).kept hk, (h5.moved hW.alike).kept hk, (va_X.moved hW.alike h6).kept (hk _ (by omega) (by omega)), h7⟩
theorem sm_O.same {ζ : sm_Z} {Γ : sm_G} {s U : State} {H : Heap} (hv : s.vm = U.vm) (h : sm_O ζ Γ s H) : sm_O ζ Γ U H := by
  obtain ⟨h1, h2, h3, h4, h5, h6, h7⟩ := h
  have ha : s.vm.Alike U.vm := by rw [hv]; exact Vm.Alike.refl _
  exact ⟨h1.same hv.symm, h2.same hv.symm, h3.moved ha, h4.moved ha, h5.moved ha, va_X.moved ha h6, h7⟩
/-- what a callee is told of the machine, out of what its caller knows -/
theorem sm_K.pass {ζ : sm_Z} {Γ : sm_G} {s U : State} {locs : List Loc} (hW : s.WarmedH U.vm) (hS : va_S (fun q => Γ.1 ≤ q) s.heap U.heap locs) (h : sm_K ζ Γ s) : sm_K ζ Γ U := by
  obtain ⟨h1, h2, h3, h4, h5⟩ := h
  exact ⟨h1, h2.moved hW.alike, h3.warm hW, h4.warm hW h5 (fun a z1 z2 => hS.2.1 a z1 z2), Nat.le_trans h5 hS.1⟩
theorem sm_K.same {ζ : sm_Z} {Γ : sm_G} {s U : State} (hv : s.vm = U.vm) (hh : s.heap = U.heap) (h : sm_K ζ Γ s) : sm_K ζ Γ U := by
  obtain ⟨h1, h2, h3, h4, h5⟩ := h
  exact ⟨h1, h2.moved (by rw [hv]; exact Vm.Alike.refl _), h3.same hv, by rw [← hh]; exact h4.same hv, by rw [← hh]; exact h5⟩
def sm_Pc (ζ : sm_Z) (Γ : sm_G) (as : List Value) (n : Nat) (sh : Nat → sm_S) (I : sm_I) : Array Value → State → Prop := va_Pc (as.map (sm_V Γ.2.1)) (fun U => sm_H Γ n sh I U.heap ∧ sm_K ζ Γ U)
def sm_Qc (Γ : sm_G) (Q : sm_Qt) : Array Value → State → Outcome → State → Prop := fun _ st oc t => (∃ r n sh I, oc = .returned (r.map (sm_V Γ.2.1)) ∧ Q r n sh I ∧ sm_H Γ n sh I t.heap) ∧ va_F (fun q => Γ.1 ≤ q) st t
theorem sm_Pc.blind {ζ : sm_Z} {Γ : sm_G} {as : List Value} {n : Nat} {sh : Nat → sm_S} {I : sm_I} : FrameBlind (sm_Pc ζ Γ as n sh I) := by
  intro a U g mk h
  obtain ⟨h1, h2, h3⟩ := h
  exact ⟨h1, h2, h3.same (U := U.calling g mk a) rfl rfl⟩
abbrev sm_rm (d mc ms : Nat) : Room := { frames := d, cells := mc, slots := ms, locals := 40 * d }
abbrev sm_ws (μ : sm_Mu) : List Cond := Cond.code μ.1 μ.2.1 μ.2.2.1 μ.2.2.2 :: lw_good
/-- A METHOD'S CONTRACT: from the shapes sh and the ints I it comes to an answer and a state with Q; d: how many frames it takes -/
def Em (d mc ms : Nat) (μ : sm_Mu) (as : List Value) (n : Nat) (sh : Nat → sm_S) (I : sm_I) (Q : sm_Qt) : Prop := ∀ (ζ : sm_Z) (l : Launch) (Γ : sm_G), Met l μ.1 (sm_ws μ) (sm_rm d mc ms) (sm_Pc ζ Γ as n sh I) (sm_Qc Γ Q) mc ms (fun q => Γ.1 ≤ q)
def sm_L (ad : Nat → Nat) (ls : Array Slot) (nL : Nat) (lv : List (Option Value)) : Prop := ls.size = nL ∧ lv_wf ls ∧ ∀ (i : Nat) (v : Value), lv[i]? = some (some v) → v.category = 1 ∧ ls[i]? = some (.val (sm_V ad v))
def sm_R (μ : sm_Mu) (r : Option Value) (pc : Nat) : Prop := match r with
  | none => μ.2.2.2 = none ∧ decode μ.2.1 pc = .ok (.return_, 1)
  | some (.int v) => (∃ ty, μ.2.2.2 = some ty ∧ narrow ty (.int v) = .int v) ∧ decode μ.2.1 pc = .ok (.ireturn, 1)
  | some (.float _) => μ.2.2.2 = some .float ∧ decode μ.2.1 pc = .ok (.freturn, 1)
  | some (.ref _) => (∃ t, μ.2.2.2 = some (.object t)) ∧ decode μ.2.1 pc = .ok (.areturn, 1)
  | _ => False
/-- what holds all through a method's walk -/
def sm_C (ζ : sm_Z) (Γ : sm_G) (R : Room) (μ : sm_Mu) (p : Program) (l : Launch) (e : Env) (s : State) (m : MethodId) (args : Array Value) (below : List Frame) (meth : Method) (c : Code) (Z : State → Prop) (Q : sm_Qt) : Prop :=
  p.tables.exec = Jvm.exec ∧ c.code = μ.2.1 ∧ c.maxLocals = μ.2.2.1 ∧ s.vm.findClass μ.1.cls = some m.cls ∧ (∀ w ∈ lw_good, w.before args s = true) ∧ meth.name = μ.1.name ∧ sm_K ζ Γ s ∧
  ∀ (r : Option Value) (n : Nat) (sh : Nat → sm_S) (I : sm_I) (H : Heap) (locs : List Loc) (cl sl pc : Nat) (ls : Array Slot), cl ≤ R.cells → sl ≤ R.slots → Q r n sh I → sm_H Γ n sh I H → va_S (fun q => Γ.1 ≤ q) s.heap H locs → sm_R μ r pc → W p l e R s m args below meth c H locs cl sl Z (F0 m pc ls (r.map (sm_V Γ.2.1)).toList)
def sm_D (Γ : sm_G) (s : State) (μ : sm_Mu) (H : Heap) (locs : List Loc) (ls : Array Slot) (lv : List (Option Value)) (n : Nat) (sh : Nat → sm_S) (I : sm_I) : Prop := va_S (fun q => Γ.1 ≤ q) s.heap H locs ∧ sm_H Γ n sh I H ∧ sm_L Γ.2.1 ls μ.2.2.1 lv
/-- THE WALK: at pc, with locals lv and stack st, the shapes sh and the ints I, the method comes to its end with Q -/
def Xm (ζ : sm_Z) (R : Room) (μ : sm_Mu) (pc : Nat) (lv : List (Option Value)) (st : List Value) (cl sl n : Nat) (sh : Nat → sm_S) (I : sm_I) (Q : sm_Qt) : Prop :=
  ∀ (Γ : sm_G) (p : Program) (l : Launch) (e : Env) (s : State) (m : MethodId) (args : Array Value) (below : List Frame) (meth : Method) (c : Code) (Z : State → Prop) (H : Heap) (locs : List Loc) (ls : Array Slot), sm_C ζ Γ R μ p l e s m args below meth c Z Q → sm_D Γ s μ H locs ls lv n sh I → W p l e R s m args below meth c H locs cl sl Z (F0 m pc ls (st.map (sm_V Γ.2.1)))
def sm_A (ad : Nat → Nat) (lv : List (Option Value)) : List (Nat × Value) := (List.range lv.length).filterMap fun j => (lv.getD j none).map fun v => (j, sm_V ad v)
theorem sm_A_mem {ad : Nat → Nat} {lv : List (Option Value)} {j : Nat} {v : Value} (h : lv[j]? = some (some v)) : (j, sm_V ad v) ∈ sm_A ad lv := by
  have hl : j < lv.length := (List.getElem?_eq_some_iff.mp h).1
  refine List.mem_filterMap.mpr ⟨j, List.mem_range.mpr hl, ?_⟩
  rw [List.getD_eq_getElem?_getD, h]
  rfl
theorem sm_A_of {ad : Nat → Nat} {lv : List (Option Value)} {q : Nat × Value} (h : q ∈ sm_A ad lv) : ∃ v, lv[q.1]? = some (some v) ∧ q.2 = sm_V ad v := by
  obtain ⟨j, hj, hq⟩ := List.mem_filterMap.mp h
  have hl := List.mem_range.mp hj
  rw [List.getD_eq_getElem?_getD] at hq
  cases hv : lv[j]? with
  | none => rw [hv] at hq; cases hq
  | some o =>
    cases o with
    | none => rw [hv] at hq; cases hq
    | some v => rw [hv] at hq; cases hq; exact ⟨v, hv, rfl⟩
theorem sm_L.has {ad : Nat → Nat} {ls : Array Slot} {nL : Nat} {lv : List (Option Value)} (h : sm_L ad ls nL lv) : lv_has ls nL (sm_A ad lv) := by
  refine ⟨h.1, h.2.1, fun q hq => ?_⟩
  obtain ⟨v, h1, h2⟩ := sm_A_of hq
  rw [h2]
  exact (h.2.2 q.1 v h1).2
theorem sm_L.set {ad : Nat → Nat} {ls ls' : Array Slot} {nL : Nat} {lv : List (Option Value)} {i : Nat} {v : Value} (hv : v.category = 1) (h0 : sm_L ad ls nL lv) (h : lv_has ls' nL ((i, sm_V ad v) :: (sm_A ad lv).filter (fun q => !(q.1 == i) && !(q.1 + 1 == i && q.2.category == 2)))) : sm_L ad ls' nL (lv.set i (some v)) := by
  refine ⟨h.1, h.2.1, fun j w hj => ?_⟩
  by_cases hji : j = i
  · subst hji
    by_cases hl : j < lv.length
    · rw [List.getElem?_set_self hl] at hj
      cases hj
      exact ⟨hv, h.2.2 _ List.mem_cons_self⟩
    · rw [List.getElem?_eq_none (by rw [List.length_set]; omega)] at hj
      cases hj
  · rw [List.getElem?_set_ne (Ne.symm hji)] at hj
    have hc := (h0.2.2 j w hj).1
    refine ⟨hc, h.2.2 (j, sm_V ad w) (List.mem_cons_of_mem _ (List.mem_filter.mpr ⟨sm_A_mem hj, ?_⟩))⟩
    have h2 : ¬ (sm_V ad w).category = 2 := by rw [sm_V_cat, hc]; decide
    simp [hji, h2]
theorem sm_L.at {ad : Nat → Nat} {ls : Array Slot} {nL : Nat} {lv : List (Option Value)} {i : Nat} {v : Value} (h : sm_L ad ls nL lv) (hv : lv[i]? = some (some v)) : ls[i]? = some (.val (sm_V ad v)) := (h.2.2 i v hv).2
/-- one int of the memory anew -/
def up2 (I : sm_I) (a k : Nat) (v : Int32) : sm_I := fun b j => if b = a ∧ j = k then v else I b j
theorem up2_row {I : sm_I} {a k : Nat} {v : Int32} : up2 I a k v a = upd (I a) k v := by
  funext j
  by_cases h : j = k <;> simp [up2, upd, h]
theorem up2_ne {I : sm_I} {a b k : Nat} {v : Int32} (h : b ≠ a) : up2 I a k v b = I b := by
  funext j
  simp [up2, h]
theorem up2_s {I : sm_I} {a k : Nat} {v : Int32} : up2 I a k v a k = v := by simp [up2]
section SMX
variable {ζ : sm_Z} {R : Room} {μ : sm_Mu} {pc : Nat} {lv : List (Option Value)} {st : List Value} {cl sl n : Nat} {sh : Nat → sm_S} {I : sm_I} {Q : sm_Qt}
theorem x_iadd {x y : Int32} (hd : decode μ.2.1 pc = .ok (.iadd, 1)) (k : Xm ζ R μ (pc + 1) lv (.int (x + y) :: st) cl sl n sh I Q) : Xm ζ R μ pc lv (.int y :: .int x :: st) cl sl n sh I Q := by
  intro Γ p l e s m args below meth c Z H locs ls C D
  exact lv_iadd C.1 C.2.1 hd (k Γ p l e s m args below meth c Z H locs ls C D)

theorem x_isub {x y : Int32} (hd : decode μ.2.1 pc = .ok (.isub, 1)) (k : Xm ζ R μ (pc + 1) lv (.int (x - y) :: st) cl sl n sh I Q) : Xm ζ R μ pc lv (.int y :: .int x :: st) cl sl n sh I Q := by
  intro Γ p l e s m args below meth c Z H locs ls C D
  exact lv_isub C.1 C.2.1 hd (k Γ p l e s m args below meth c Z H locs ls C D)

theorem x_imul {x y : Int32} (hd : decode μ.2.1 pc = .ok (.imul, 1)) (k : Xm ζ R μ (pc + 1) lv (.int (x * y) :: st) cl sl n sh I Q) : Xm ζ R μ pc lv (.int y :: .int x :: st) cl sl n sh I Q := by
  intro Γ p l e s m args below meth c Z H locs ls C D
  exact lv_imul C.1 C.2.1 hd (k Γ p l e s m args below meth c Z H locs ls C D)

theorem x_iand {x y : Int32} (hd : decode μ.2.1 pc = .ok (.iand, 1)) (k : Xm ζ R μ (pc + 1) lv (.int (x &&& y) :: st) cl sl n sh I Q) : Xm ζ R μ pc lv (.int y :: .int x :: st) cl sl n sh I Q := by
  intro Γ p l e s m args below meth c Z H locs ls C D
  exact lv_iand C.1 C.2.1 hd (k Γ p l e s m args below meth c Z H locs ls C D)

theorem x_ior {x y : Int32} (hd : decode μ.2.1 pc = .ok (.ior, 1)) (k : Xm ζ R μ (pc + 1) lv (.int (x ||| y) :: st) cl sl n sh I Q) : Xm ζ R μ pc lv (.int y :: .int x :: st) cl sl n sh I Q := by
  intro Γ p l e s m args below meth c Z H locs ls C D
  exact lv_ior C.1 C.2.1 hd (k Γ p l e s m args below meth c Z H locs ls C D)

theorem x_ishl {x y : Int32} (hd : decode μ.2.1 pc = .ok (.ishl, 1)) (k : Xm ζ R μ (pc + 1) lv (.int (x <<< (y &&& 31)) :: st) cl sl n sh I Q) : Xm ζ R μ pc lv (.int y :: .int x :: st) cl sl n sh I Q := by
  intro Γ p l e s m args below meth c Z H locs ls C D
  exact lv_ishl C.1 C.2.1 hd (k Γ p l e s m args below meth c Z H locs ls C D)

theorem x_ishr {x y : Int32} (hd : decode μ.2.1 pc = .ok (.ishr, 1)) (k : Xm ζ R μ (pc + 1) lv (.int (x >>> (y &&& 31)) :: st) cl sl n sh I Q) : Xm ζ R μ pc lv (.int y :: .int x :: st) cl sl n sh I Q := by
  intro Γ p l e s m args below meth c Z H locs ls C D
  exact lv_ishr C.1 C.2.1 hd (k Γ p l e s m args below meth c Z H locs ls C D)

theorem x_iushr {x y : Int32} (hd : decode μ.2.1 pc = .ok (.iushr, 1)) (k : Xm ζ R μ (pc + 1) lv (.int (x.toUInt32 >>> (y.toUInt32 &&& Int32.toUInt32 31)).toInt32 :: st) cl sl n sh I Q) : Xm ζ R μ pc lv (.int y :: .int x :: st) cl sl n sh I Q := by
  intro Γ p l e s m args below meth c Z H locs ls C D
  exact lv_iushr C.1 C.2.1 hd rfl (k Γ p l e s m args below meth c Z H locs ls C D)

theorem x_idiv {x y : Int32} (hd : decode μ.2.1 pc = .ok (.idiv, 1)) (hne : ¬ y = 0) (k : Xm ζ R μ (pc + 1) lv (.int (x / y) :: st) cl sl n sh I Q) : Xm ζ R μ pc lv (.int y :: .int x :: st) cl sl n sh I Q := by
  intro Γ p l e s m args below meth c Z H locs ls C D
  exact lv_idiv C.1 C.2.1 hd hne (k Γ p l e s m args below meth c Z H locs ls C D)

theorem x_irem {x y : Int32} (hd : decode μ.2.1 pc = .ok (.irem, 1)) (hne : ¬ y = 0) (k : Xm ζ R μ (pc + 1) lv (.int (x - x / y * y) :: st) cl sl n sh I Q) : Xm ζ R μ pc lv (.int y :: .int x :: st) cl sl n sh I Q := by
  intro Γ p l e s m args below meth c Z H locs ls C D
  exact lv_irem C.1 C.2.1 hd hne (k Γ p l e s m args below meth c Z H locs ls C D)

theorem x_i2b {x : Int32} (hd : decode μ.2.1 pc = .ok (.i2b, 1)) (k : Xm ζ R μ (pc + 1) lv (.int x.toInt8.toInt32 :: st) cl sl n sh I Q) : Xm ζ R μ pc lv (.int x :: st) cl sl n sh I Q := by
  intro Γ p l e s m args below meth c Z H locs ls C D
  exact lv_i2b C.1 C.2.1 hd rfl (k Γ p l e s m args below meth c Z H locs ls C D)

theorem x_i2f {x : Int32} (hd : decode μ.2.1 pc = .ok (.i2f, 1)) (k : Xm ζ R μ (pc + 1) lv (.float (FP.i2f x) :: st) cl sl n sh I Q) : Xm ζ R μ pc lv (.int x :: st) cl sl n sh I Q := by
  intro Γ p l e s m args below meth c Z H locs ls C D
  exact lv_i2f C.1 C.2.1 hd (k Γ p l e s m args below meth c Z H locs ls C D)

theorem x_f2i {x : UInt32} (hd : decode μ.2.1 pc = .ok (.f2i, 1)) (k : Xm ζ R μ (pc + 1) lv (.int (FP.f2i x) :: st) cl sl n sh I Q) : Xm ζ R μ pc lv (.float x :: st) cl sl n sh I Q := by
  intro Γ p l e s m args below meth c Z H locs ls C D
  exact lv_f2i C.1 C.2.1 hd (k Γ p l e s m args below meth c Z H locs ls C D)

theorem x_fadd {x y : UInt32} (hd : decode μ.2.1 pc = .ok (.fadd, 1)) (hne : vf_n32 (FP.fadd x y)) (k : Xm ζ R μ (pc + 1) lv (.float (FP.fadd x y) :: st) cl sl n sh I Q) : Xm ζ R μ pc lv (.float y :: .float x :: st) cl sl n sh I Q := by
  intro Γ p l e s m args below meth c Z H locs ls C D
  exact lv_fadd C.1 C.2.1 hd hne (k Γ p l e s m args below meth c Z H locs ls C D)

theorem x_fmul {x y : UInt32} (hd : decode μ.2.1 pc = .ok (.fmul, 1)) (hne : vf_n32 (FP.fmul x y)) (k : Xm ζ R μ (pc + 1) lv (.float (FP.fmul x y) :: st) cl sl n sh I Q) : Xm ζ R μ pc lv (.float y :: .float x :: st) cl sl n sh I Q := by
  intro Γ p l e s m args below meth c Z H locs ls C D
  exact lv_fmul C.1 C.2.1 hd hne (k Γ p l e s m args below meth c Z H locs ls C D)

theorem x_fdiv {x y : UInt32} (hd : decode μ.2.1 pc = .ok (.fdiv, 1)) (hne : vf_n32 (FP.fdiv x y)) (k : Xm ζ R μ (pc + 1) lv (.float (FP.fdiv x y) :: st) cl sl n sh I Q) : Xm ζ R μ pc lv (.float y :: .float x :: st) cl sl n sh I Q := by
  intro Γ p l e s m args below meth c Z H locs ls C D
  exact lv_fdiv C.1 C.2.1 hd hne (k Γ p l e s m args below meth c Z H locs ls C D)

theorem x_fcmp {x y : UInt32} {op : CmpOp} (hd : decode μ.2.1 pc = .ok (.fcmp op, 1)) (k : Xm ζ R μ (pc + 1) lv (.int (Op.cmpValue (FP.fcmp x y) op) :: st) cl sl n sh I Q) : Xm ζ R μ pc lv (.float y :: .float x :: st) cl sl n sh I Q := by
  intro Γ p l e s m args below meth c Z H locs ls C D
  exact lv_fcmp C.1 C.2.1 hd (k Γ p l e s m args below meth c Z H locs ls C D)

theorem x_fconst0  (hd : decode μ.2.1 pc = .ok (.fconst 0, 1)) (k : Xm ζ R μ (pc + 1) lv (.float FP.fconst0 :: st) cl sl n sh I Q) : Xm ζ R μ pc lv st cl sl n sh I Q := by
  intro Γ p l e s m args below meth c Z H locs ls C D
  exact lv_fconst0 C.1 C.2.1 hd (k Γ p l e s m args below meth c Z H locs ls C D)

theorem x_iconst {i : Int} {v : Int32} (hd : decode μ.2.1 pc = .ok (.iconst i, 1)) (hv : Int32.ofInt i = v) (k : Xm ζ R μ (pc + 1) lv (.int v :: st) cl sl n sh I Q) : Xm ζ R μ pc lv st cl sl n sh I Q := by
  intro Γ p l e s m args below meth c Z H locs ls C D
  exact lv_iconst C.1 C.2.1 hd hv (k Γ p l e s m args below meth c Z H locs ls C D)

theorem x_bipush {i : Int} {v : Int32} (hd : decode μ.2.1 pc = .ok (.bipush i, 2)) (hv : (Int8.ofInt i).toInt32 = v) (k : Xm ζ R μ (pc + 2) lv (.int v :: st) cl sl n sh I Q) : Xm ζ R μ pc lv st cl sl n sh I Q := by
  intro Γ p l e s m args below meth c Z H locs ls C D
  exact lv_bipush C.1 C.2.1 hd hv (k Γ p l e s m args below meth c Z H locs ls C D)

theorem x_sipush {i : Int} {v : Int32} (hd : decode μ.2.1 pc = .ok (.sipush i, 3)) (hv : (Int16.ofInt i).toInt32 = v) (k : Xm ζ R μ (pc + 3) lv (.int v :: st) cl sl n sh I Q) : Xm ζ R μ pc lv st cl sl n sh I Q := by
  intro Γ p l e s m args below meth c Z H locs ls C D
  exact lv_sipush C.1 C.2.1 hd hv (k Γ p l e s m args below meth c Z H locs ls C D)

theorem x_dup {v : Value} (hd : decode μ.2.1 pc = .ok (.dup, 1)) (hv : v.category = 1) (k : Xm ζ R μ (pc + 1) lv (v :: v :: st) cl sl n sh I Q) : Xm ζ R μ pc lv (v :: st) cl sl n sh I Q := by
  intro Γ p l e s m args below meth c Z H locs ls C D
  exact lv_dup C.1 C.2.1 hd (by rw [sm_V_cat]; exact hv) (k Γ p l e s m args below meth c Z H locs ls C D)

theorem x_pop {v : Value} (hd : decode μ.2.1 pc = .ok (.pop, 1)) (hv : v.category = 1) (k : Xm ζ R μ (pc + 1) lv st cl sl n sh I Q) : Xm ζ R μ pc lv (v :: st) cl sl n sh I Q := by
  intro Γ p l e s m args below meth c Z H locs ls C D
  exact lv_pop C.1 C.2.1 hd (by rw [sm_V_cat]; exact hv) (k Γ p l e s m args below meth c Z H locs ls C D)

theorem x_dup2 {v w : Value} (hd : decode μ.2.1 pc = .ok (.dup2, 1)) (hv : v.category = 1) (hw : w.category = 1) (k : Xm ζ R μ (pc + 1) lv (v :: w :: v :: w :: st) cl sl n sh I Q) : Xm ζ R μ pc lv (v :: w :: st) cl sl n sh I Q := by
  intro Γ p l e s m args below meth c Z H locs ls C D
  exact lv_dup2_11 C.1 C.2.1 hd (by rw [sm_V_cat]; exact hv) (by rw [sm_V_cat]; exact hw) (k Γ p l e s m args below meth c Z H locs ls C D)

theorem x_iload_n {j : Fin 4} {i : Nat} {x : Int32} (hd : decode μ.2.1 pc = .ok (.iload_n j, 1)) (hi : (j : Nat) = i) (hl : lv[i]? = some (some (.int x))) (k : Xm ζ R μ (pc + 1) lv (.int x :: st) cl sl n sh I Q) : Xm ζ R μ pc lv st cl sl n sh I Q := by
  intro Γ p l e s m args below meth c Z H locs ls C D
  exact lv_iload_n C.1 C.2.1 hd hi (D.2.2.at hl) (k Γ p l e s m args below meth c Z H locs ls C D)

theorem x_iload {i : Nat} {x : Int32} (hd : decode μ.2.1 pc = .ok (.iload i, 2)) (hl : lv[i]? = some (some (.int x))) (k : Xm ζ R μ (pc + 2) lv (.int x :: st) cl sl n sh I Q) : Xm ζ R μ pc lv st cl sl n sh I Q := by
  intro Γ p l e s m args below meth c Z H locs ls C D
  exact lv_iload C.1 C.2.1 hd (D.2.2.at hl) (k Γ p l e s m args below meth c Z H locs ls C D)

theorem x_aload_n {j : Fin 4} {i : Nat} {x : Nat} (hd : decode μ.2.1 pc = .ok (.aload_n j, 1)) (hi : (j : Nat) = i) (hl : lv[i]? = some (some (.ref x))) (k : Xm ζ R μ (pc + 1) lv (.ref x :: st) cl sl n sh I Q) : Xm ζ R μ pc lv st cl sl n sh I Q := by
  intro Γ p l e s m args below meth c Z H locs ls C D
  exact lv_aload_n C.1 C.2.1 hd hi (D.2.2.at hl) (k Γ p l e s m args below meth c Z H locs ls C D)

theorem x_aload {i : Nat} {x : Nat} (hd : decode μ.2.1 pc = .ok (.aload i, 2)) (hl : lv[i]? = some (some (.ref x))) (k : Xm ζ R μ (pc + 2) lv (.ref x :: st) cl sl n sh I Q) : Xm ζ R μ pc lv st cl sl n sh I Q := by
  intro Γ p l e s m args below meth c Z H locs ls C D
  exact lv_aload C.1 C.2.1 hd (D.2.2.at hl) (k Γ p l e s m args below meth c Z H locs ls C D)

theorem x_fload_n {j : Fin 4} {i : Nat} {x : UInt32} (hd : decode μ.2.1 pc = .ok (.fload_n j, 1)) (hi : (j : Nat) = i) (hl : lv[i]? = some (some (.float x))) (k : Xm ζ R μ (pc + 1) lv (.float x :: st) cl sl n sh I Q) : Xm ζ R μ pc lv st cl sl n sh I Q := by
  intro Γ p l e s m args below meth c Z H locs ls C D
  exact lv_fload_n C.1 C.2.1 hd hi (D.2.2.at hl) (k Γ p l e s m args below meth c Z H locs ls C D)

theorem x_istore_n {j : Fin 4} {i : Nat} {x : Int32} (hd : decode μ.2.1 pc = .ok (.istore_n j, 1)) (hi : (j : Nat) = i) (hn : i < μ.2.2.1) (k : Xm ζ R μ (pc + 1) (lv.set i (some (.int x))) st cl sl n sh I Q) : Xm ζ R μ pc lv (.int x :: st) cl sl n sh I Q := by
  intro Γ p l e s m args below meth c Z H locs ls C D
  exact lv_istore_n C.1 C.2.1 hd hi D.2.2.has hn rfl (fun ls' hl' => k Γ p l e s m args below meth c Z H locs ls' C ⟨D.1, D.2.1, D.2.2.set rfl hl'⟩)

theorem x_istore {i : Nat} {x : Int32} (hd : decode μ.2.1 pc = .ok (.istore i, 2)) (hn : i < μ.2.2.1) (k : Xm ζ R μ (pc + 2) (lv.set i (some (.int x))) st cl sl n sh I Q) : Xm ζ R μ pc lv (.int x :: st) cl sl n sh I Q := by
  intro Γ p l e s m args below meth c Z H locs ls C D
  exact lv_istore C.1 C.2.1 hd D.2.2.has hn rfl (fun ls' hl' => k Γ p l e s m args below meth c Z H locs ls' C ⟨D.1, D.2.1, D.2.2.set rfl hl'⟩)

theorem x_astore_n {j : Fin 4} {i : Nat} {x : Nat} (hd : decode μ.2.1 pc = .ok (.astore_n j, 1)) (hi : (j : Nat) = i) (hn : i < μ.2.2.1) (k : Xm ζ R μ (pc + 1) (lv.set i (some (.ref x))) st cl sl n sh I Q) : Xm ζ R μ pc lv (.ref x :: st) cl sl n sh I Q := by
  intro Γ p l e s m args below meth c Z H locs ls C D
  exact lv_astore_n C.1 C.2.1 hd hi D.2.2.has hn rfl (fun ls' hl' => k Γ p l e s m args below meth c Z H locs ls' C ⟨D.1, D.2.1, D.2.2.set rfl hl'⟩)

theorem x_astore {i : Nat} {x : Nat} (hd : decode μ.2.1 pc = .ok (.astore i, 2)) (hn : i < μ.2.2.1) (k : Xm ζ R μ (pc + 2) (lv.set i (some (.ref x))) st cl sl n sh I Q) : Xm ζ R μ pc lv (.ref x :: st) cl sl n sh I Q := by
  intro Γ p l e s m args below meth c Z H locs ls C D
  exact lv_astore C.1 C.2.1 hd D.2.2.has hn rfl (fun ls' hl' => k Γ p l e s m args below meth c Z H locs ls' C ⟨D.1, D.2.1, D.2.2.set rfl hl'⟩)

theorem x_fstore_n {j : Fin 4} {i : Nat} {x : UInt32} (hd : decode μ.2.1 pc = .ok (.fstore_n j, 1)) (hi : (j : Nat) = i) (hn : i < μ.2.2.1) (k : Xm ζ R μ (pc + 1) (lv.set i (some (.float x))) st cl sl n sh I Q) : Xm ζ R μ pc lv (.float x :: st) cl sl n sh I Q := by
  intro Γ p l e s m args below meth c Z H locs ls C D
  exact lv_fstore_n C.1 C.2.1 hd hi D.2.2.has hn rfl (fun ls' hl' => k Γ p l e s m args below meth c Z H locs ls' C ⟨D.1, D.2.1, D.2.2.set rfl hl'⟩)

theorem x_iinc {i : Nat} {d : Int} {x v : Int32} (hd : decode μ.2.1 pc = .ok (.iinc i d, 3)) (hl : lv[i]? = some (some (.int x))) (hv : x + Int32.ofInt d = v) (hn : i < μ.2.2.1) (k : Xm ζ R μ (pc + 3) (lv.set i (some (.int v))) st cl sl n sh I Q) : Xm ζ R μ pc lv st cl sl n sh I Q := by
  intro Γ p l e s m args below meth c Z H locs ls C D
  obtain ⟨q, hq⟩ := List.getElem?_of_mem (sm_A_mem (ad := Γ.2.1) hl)
  exact lv_iinc C.1 C.2.1 hd D.2.2.has hq hv hn rfl (fun ls' hl' => k Γ p l e s m args below meth c Z H locs ls' C ⟨D.1, D.2.1, D.2.2.set rfl hl'⟩)

theorem x_if_eq {x : Int32} {off : Int} {tgt : Nat} (hd : decode μ.2.1 pc = .ok (.ifCond .eq off, 3)) (ht : (pc : Int) + off = (tgt : Int)) (kt : x = 0 → Xm ζ R μ tgt lv st cl sl n sh I Q) (kf : ¬ x = 0 → Xm ζ R μ (pc + 3) lv st cl sl n sh I Q) : Xm ζ R μ pc lv (.int x :: st) cl sl n sh I Q := by
  intro Γ p l e s m args below meth c Z H locs ls C D
  exact lv_if_eq C.1 C.2.1 hd ht (fun h => kt h Γ p l e s m args below meth c Z H locs ls C D) (fun h => kf h Γ p l e s m args below meth c Z H locs ls C D)

theorem x_icmp_eq {x y : Int32} {off : Int} {tgt : Nat} (hd : decode μ.2.1 pc = .ok (.if_icmp .eq off, 3)) (ht : (pc : Int) + off = (tgt : Int)) (kt : x = y → Xm ζ R μ tgt lv st cl sl n sh I Q) (kf : ¬ x = y → Xm ζ R μ (pc + 3) lv st cl sl n sh I Q) : Xm ζ R μ pc lv (.int y :: .int x :: st) cl sl n sh I Q := by
  intro Γ p l e s m args below meth c Z H locs ls C D
  exact lv_icmp_eq C.1 C.2.1 hd ht (fun h => kt h Γ p l e s m args below meth c Z H locs ls C D) (fun h => kf h Γ p l e s m args below meth c Z H locs ls C D)

theorem x_if_ne {x : Int32} {off : Int} {tgt : Nat} (hd : decode μ.2.1 pc = .ok (.ifCond .ne off, 3)) (ht : (pc : Int) + off = (tgt : Int)) (kt : ¬ x = 0 → Xm ζ R μ tgt lv st cl sl n sh I Q) (kf : x = 0 → Xm ζ R μ (pc + 3) lv st cl sl n sh I Q) : Xm ζ R μ pc lv (.int x :: st) cl sl n sh I Q := by
  intro Γ p l e s m args below meth c Z H locs ls C D
  exact lv_if_ne C.1 C.2.1 hd ht (fun h => kt h Γ p l e s m args below meth c Z H locs ls C D) (fun h => kf h Γ p l e s m args below meth c Z H locs ls C D)

theorem x_icmp_ne {x y : Int32} {off : Int} {tgt : Nat} (hd : decode μ.2.1 pc = .ok (.if_icmp .ne off, 3)) (ht : (pc : Int) + off = (tgt : Int)) (kt : ¬ x = y → Xm ζ R μ tgt lv st cl sl n sh I Q) (kf : x = y → Xm ζ R μ (pc + 3) lv st cl sl n sh I Q) : Xm ζ R μ pc lv (.int y :: .int x :: st) cl sl n sh I Q := by
  intro Γ p l e s m args below meth c Z H locs ls C D
  exact lv_icmp_ne C.1 C.2.1 hd ht (fun h => kt h Γ p l e s m args below meth c Z H locs ls C D) (fun h => kf h Γ p l e s m args below meth c Z H locs ls C D)

theorem x_if_lt {x : Int32} {off : Int} {tgt : Nat} (hd : decode μ.2.1 pc = .ok (.ifCond .lt off, 3)) (ht : (pc : Int) + off = (tgt : Int)) (kt : x < 0 → Xm ζ R μ tgt lv st cl sl n sh I Q) (kf : ¬ x < 0 → Xm ζ R μ (pc + 3) lv st cl sl n sh I Q) : Xm ζ R μ pc lv (.int x :: st) cl sl n sh I Q := by
  intro Γ p l e s m args below meth c Z H locs ls C D
  exact lv_if_lt C.1 C.2.1 hd ht (fun h => kt h Γ p l e s m args below meth c Z H locs ls C D) (fun h => kf h Γ p l e s m args below meth c Z H locs ls C D)

theorem x_icmp_lt {x y : Int32} {off : Int} {tgt : Nat} (hd : decode μ.2.1 pc = .ok (.if_icmp .lt off, 3)) (ht : (pc : Int) + off = (tgt : Int)) (kt : x < y → Xm ζ R μ tgt lv st cl sl n sh I Q) (kf : ¬ x < y → Xm ζ R μ (pc + 3) lv st cl sl n sh I Q) : Xm ζ R μ pc lv (.int y :: .int x :: st) cl sl n sh I Q := by
  intro Γ p l e s m args below meth c Z H locs ls C D
  exact lv_icmp_lt C.1 C.2.1 hd ht (fun h => kt h Γ p l e s m args below meth c Z H locs ls C D) (fun h => kf h Γ p l e s m args below meth c Z H locs ls C D)

theorem x_if_ge {x : Int32} {off : Int} {tgt : Nat} (hd : decode μ.2.1 pc = .ok (.ifCond .ge off, 3)) (ht : (pc : Int) + off = (tgt : Int)) (kt : 0 ≤ x → Xm ζ R μ tgt lv st cl sl n sh I Q) (kf : ¬ 0 ≤ x → Xm ζ R μ (pc + 3) lv st cl sl n sh I Q) : Xm ζ R μ pc lv (.int x :: st) cl sl n sh I Q := by
  intro Γ p l e s m args below meth c Z H locs ls C D
  exact lv_if_ge C.1 C.2.1 hd ht (fun h => kt h Γ p l e s m args below meth c Z H locs ls C D) (fun h => kf h Γ p l e s m args below meth c Z H locs ls C D)

theorem x_icmp_ge {x y : Int32} {off : Int} {tgt : Nat} (hd : decode μ.2.1 pc = .ok (.if_icmp .ge off, 3)) (ht : (pc : Int) + off = (tgt : Int)) (kt : y ≤ x → Xm ζ R μ tgt lv st cl sl n sh I Q) (kf : ¬ y ≤ x → Xm ζ R μ (pc + 3) lv st cl sl n sh I Q) : Xm ζ R μ pc lv (.int y :: .int x :: st) cl sl n sh I Q := by
  intro Γ p l e s m args below meth c Z H locs ls C D
  exact lv_icmp_ge C.1 C.2.1 hd ht (fun h => kt h Γ p l e s m args below meth c Z H locs ls C D) (fun h => kf h Γ p l e s m args below meth c Z H locs ls C D)

theorem x_if_gt {x : Int32} {off : Int} {tgt : Nat} (hd : decode μ.2.1 pc = .ok (.ifCond .gt off, 3)) (ht : (pc : Int) + off = (tgt : Int)) (kt : 0 < x → Xm ζ R μ tgt lv st cl sl n sh I Q) (kf : ¬ 0 < x → Xm ζ R μ (pc + 3) lv st cl sl n sh I Q) : Xm ζ R μ pc lv (.int x :: st) cl sl n sh I Q := by
  intro Γ p l e s m args below meth c Z H locs ls C D
  exact lv_if_gt C.1 C.2.1 hd ht (fun h => kt h Γ p l e s m args below meth c Z H locs ls C D) (fun h => kf h Γ p l e s m args below meth c Z H locs ls C D)

theorem x_icmp_gt {x y : Int32} {off : Int} {tgt : Nat} (hd : decode μ.2.1 pc = .ok (.if_icmp .gt off, 3)) (ht : (pc : Int) + off = (tgt : Int)) (kt : y < x → Xm ζ R μ tgt lv st cl sl n sh I Q) (kf : ¬ y < x → Xm ζ R μ (pc + 3) lv st cl sl n sh I Q) : Xm ζ R μ pc lv (.int y :: .int x :: st) cl sl n sh I Q := by
  intro Γ p l e s m args below meth c Z H locs ls C D
  exact lv_icmp_gt C.1 C.2.1 hd ht (fun h => kt h Γ p l e s m args below meth c Z H locs ls C D) (fun h => kf h Γ p l e s m args below meth c Z H locs ls C D)

theorem x_if_le {x : Int32} {off : Int} {tgt : Nat} (hd : decode μ.2.1 pc = .ok (.ifCond .le off, 3)) (ht : (pc : Int) + off = (tgt : Int)) (kt : x ≤ 0 → Xm ζ R μ tgt lv st cl sl n sh I Q) (kf : ¬ x ≤ 0 → Xm ζ R μ (pc + 3) lv st cl sl n sh I Q) : Xm ζ R μ pc lv (.int x :: st) cl sl n sh I Q := by
  intro Γ p l e s m args below meth c Z H locs ls C D
  exact lv_if_le C.1 C.2.1 hd ht (fun h => kt h Γ p l e s m args below meth c Z H locs ls C D) (fun h => kf h Γ p l e s m args below meth c Z H locs ls C D)

theorem x_icmp_le {x y : Int32} {off : Int} {tgt : Nat} (hd : decode μ.2.1 pc = .ok (.if_icmp .le off, 3)) (ht : (pc : Int) + off = (tgt : Int)) (kt : x ≤ y → Xm ζ R μ tgt lv st cl sl n sh I Q) (kf : ¬ x ≤ y → Xm ζ R μ (pc + 3) lv st cl sl n sh I Q) : Xm ζ R μ pc lv (.int y :: .int x :: st) cl sl n sh I Q := by
  intro Γ p l e s m args below meth c Z H locs ls C D
  exact lv_icmp_le C.1 C.2.1 hd ht (fun h => kt h Γ p l e s m args below meth c Z H locs ls C D) (fun h => kf h Γ p l e s m args below meth c Z H locs ls C D)

theorem x_goto {off : Int} {tgt : Nat} (hd : decode μ.2.1 pc = .ok (.goto off, 3)) (ht : (pc : Int) + off = (tgt : Int)) (k : Xm ζ R μ tgt lv st cl sl n sh I Q) : Xm ζ R μ pc lv st cl sl n sh I Q := by
  intro Γ p l e s m args below meth c Z H locs ls C D
  exact lv_goto C.1 C.2.1 hd ht (k Γ p l e s m args below meth c Z H locs ls C D)

theorem x_tableOut {dflt lo hi : Int} {offs : Array Int} {len : Nat} {x : Int32} {tgt : Nat} (hd : decode μ.2.1 pc = .ok (.tableswitch dflt lo hi offs, len)) (h : x.toInt < lo ∨ hi < x.toInt) (ht : (pc : Int) + dflt = (tgt : Int)) (k : Xm ζ R μ tgt lv st cl sl n sh I Q) : Xm ζ R μ pc lv (.int x :: st) cl sl n sh I Q := by
  intro Γ p l e s m args below meth c Z H locs ls C D
  exact lv_tableOut C.1 C.2.1 hd h ht (k Γ p l e s m args below meth c Z H locs ls C D)

theorem x_tableIn {dflt lo hi : Int} {offs : Array Int} {len : Nat} {x : Int32} {off : Int} {tgt : Nat} (hd : decode μ.2.1 pc = .ok (.tableswitch dflt lo hi offs, len)) (h1 : ¬ x.toInt < lo) (h2 : ¬ hi < x.toInt) (ho : offs[(x.toInt - lo).toNat]? = some off) (ht : (pc : Int) + off = (tgt : Int)) (k : Xm ζ R μ tgt lv st cl sl n sh I Q) : Xm ζ R μ pc lv (.int x :: st) cl sl n sh I Q := by
  intro Γ p l e s m args below meth c Z H locs ls C D
  exact lv_tableIn C.1 C.2.1 hd h1 h2 ho ht (k Γ p l e s m args below meth c Z H locs ls C D)

theorem x_ldcf {idx : Nat} {v : UInt32} (hd : decode μ.2.1 pc = .ok (.ldc idx, 2)) (hw : Cond.constantFloat μ.1.cls idx v ∈ lw_good) (k : Xm ζ R μ (pc + 2) lv (.float v :: st) cl sl n sh I Q) : Xm ζ R μ pc lv st cl sl n sh I Q := by
  intro Γ p l e s m args below meth c Z H locs ls C D
  exact lv_ldcf C.1 C.2.1 C.2.2.2.1 (C.2.2.2.2.1 _ hw) hd (k Γ p l e s m args below meth c Z H locs ls C D)

theorem x_ldc {idx : Nat} {v : Int32} (hd : decode μ.2.1 pc = .ok (.ldc idx, 2)) (hw : Cond.constant μ.1.cls idx v ∈ lw_good) (k : Xm ζ R μ (pc + 2) lv (.int v :: st) cl sl n sh I Q) : Xm ζ R μ pc lv st cl sl n sh I Q := by
  intro Γ p l e s m args below meth c Z H locs ls C D
  exact lv_ldc C.1 C.2.1 C.2.2.2.1 (C.2.2.2.2.1 _ hw) hd (k Γ p l e s m args below meth c Z H locs ls C D)

theorem x_ldcw {idx : Nat} {v : Int32} (hd : decode μ.2.1 pc = .ok (.ldc_w idx, 3)) (hw : Cond.constant μ.1.cls idx v ∈ lw_good) (k : Xm ζ R μ (pc + 3) lv (.int v :: st) cl sl n sh I Q) : Xm ζ R μ pc lv st cl sl n sh I Q := by
  intro Γ p l e s m args below meth c Z H locs ls C D
  exact lv_ldcw C.1 C.2.1 C.2.2.2.1 (C.2.2.2.2.1 _ hw) hd (k Γ p l e s m args below meth c Z H locs ls C D)

theorem x_ret {r : Option Value} (hr : sm_R μ r pc) (hc : cl ≤ R.cells) (hs : sl ≤ R.slots) (hq : Q r n sh I) : Xm ζ R μ pc lv r.toList cl sl n sh I Q := by
  intro Γ p l e s m args below meth c Z H locs ls C D
  have h := C.2.2.2.2.2.2.2 r n sh I H locs cl sl pc ls hc hs hq D.2.1 D.1 hr
  cases r <;> exact h
/-! ===== fields ===== -/
/-- a class of the worlds, with its words -/
def sm_Cl (ci : Nat) (K : String) (T : u_T) (N : Nat) (ty : Nat → FieldType) : Prop := vwCl[ci]? = some (K, T, N) ∧ (sm_ft ci).length = N ∧ (∀ w ∈ u_ws K T N, w ∈ lw_good) ∧ (∀ k, k < N → parseFieldDescriptor (T k).2.2.1 = some (ty k)) ∧ (∀ a, a < N → ∀ b, b < N → a ≠ b → (T a).2.1 ≠ (T b).2.1)
/-- field k of class ci, as the pool of own has it at idx; its type; whether it's final -/
def sm_Fl (own : String) (idx ci k : Nat) (t : FieldType) (fin : Bool) : Prop := ∃ (K : String) (T : u_T) (N : Nat) (ty : Nat → FieldType), sm_Cl ci K T N ty ∧ k < N ∧ ty k = t ∧ (T k).2.2.2 = fin ∧ Cond.fieldLink own idx (T k).1 (T k).2.1 (T k).2.2.1 ∈ lw_good ∧ (fin = true → (T k).1 = own)
def sm_Fg (own : String) (idx ci k : Nat) : Prop := ∃ (K : String) (T : u_T) (N : Nat) (ty : Nat → FieldType), sm_Cl ci K T N ty ∧ k < N ∧ Cond.fieldLink own idx (T k).1 (T k).2.1 (T k).2.2.1 ∈ lw_good
theorem sm_F_at {ad : Nat → Nat} {c k : Nat} {rs : List (Option Nat)} {f : Nat → Int32} (hk : k < (sm_ft c).length) : (sm_F ad c rs f)[k]? = some (if (sm_ft c).getD k false = true then .int (f k) else va_rf ((rs.getD k none).map ad)) := by
  unfold sm_F
  rw [List.getElem?_map, List.getElem?_range hk]
  rfl
theorem sm_F_len {ad : Nat → Nat} {c : Nat} {rs : List (Option Nat)} {f : Nat → Int32} : (sm_F ad c rs f).length = (sm_ft c).length := by simp [sm_F]
theorem sm_F_setI {ad : Nat → Nat} {c k : Nat} {rs : List (Option Nat)} {f : Nat → Int32} {v : Int32} (hi : (sm_ft c).getD k false = true) : (sm_F ad c rs f).set k (.int v) = sm_F ad c rs (upd f k v) := by
  apply List.ext_getElem?
  intro j
  by_cases hj : j < (sm_ft c).length
  · by_cases hjk : j = k
    · subst hjk
      rw [List.getElem?_set_self (by rw [sm_F_len]; exact hj), sm_F_at hj, if_pos hi]
      simp [upd]
    · rw [List.getElem?_set_ne (Ne.symm hjk), sm_F_at hj, sm_F_at hj]
      simp [upd, hjk]
  · rw [List.getElem?_eq_none (by rw [List.length_set, sm_F_len]; omega), List.getElem?_eq_none (by rw [sm_F_len]; omega)]
theorem sm_F_setR {ad : Nat → Nat} {c k b : Nat} {rs : List (Option Nat)} {f : Nat → Int32} (hi : (sm_ft c).getD k false = false) (hr : rs.length = (sm_ft c).length) : (sm_F ad c rs f).set k (.ref (ad b)) = sm_F ad c (rs.set k (some b)) f := by
  apply List.ext_getElem?
  intro j
  by_cases hj : j < (sm_ft c).length
  · by_cases hjk : j = k
    · subst hjk
      rw [List.getElem?_set_self (by rw [sm_F_len]; exact hj), sm_F_at hj, if_neg (by rw [hi]; decide), List.getD_eq_getElem?_getD, List.getElem?_set_self (by omega)]
      rfl
    · rw [List.getElem?_set_ne (Ne.symm hjk), sm_F_at hj, sm_F_at hj, List.getD_eq_getElem?_getD, List.getD_eq_getElem?_getD (l := rs.set k (some b)), List.getElem?_set_ne (Ne.symm hjk), List.getD_eq_getElem?_getD (l := rs)]
  · rw [List.getElem?_eq_none (by rw [List.length_set, sm_F_len]; omega), List.getElem?_eq_none (by rw [sm_F_len]; omega)]
theorem sm_one {D : va_G} {q : Nat × va_E} {H : Heap} (h : va_at D vwCl q H) : va_P D vwCl [q] H := by
  intro k x hx
  have hz : k < 1 := (List.getElem?_eq_some_iff.mp hx).1
  rw [show k = 0 by omega] at hx
  cases hx
  exact h
/-- behind a change of one cell -/
theorem sm_H.put {Γ : sm_G} {n a : Nat} {sh sh' : Nat → sm_S} {I I' : sm_I} {H H1 : Heap} (h : sm_H Γ n sh I H) (had : ∀ k, k < 1000000 → Γ.2.1 k = Γ.1 + k) (ha : a < n) (hz : H1.size = H.size) (ho : ∀ q, q ≠ Γ.2.1 a → H1[q]? = H[q]?) (hsh : ∀ b, b ≠ a → sh' b = sh b) (hI : ∀ b, b ≠ a → I' b = I b) (he : va_at Γ.2.2.1 vwCl (Γ.2.1 a, sm_E Γ.2.1 Γ.2.2.2.1 (sh' a) (I' a)) H1) : sm_H Γ n sh' I' H1 := by
  refine ⟨hz.trans h.1, h.2.1, fun b hb => ?_⟩
  by_cases hba : b = a
  · subst hba; exact he
  · rw [hsh b hba, hI b hba]
    refine (h.2.2 b hb).kept (ho _ ?_)
    have := h.2.1
    show Γ.2.1 b ≠ Γ.2.1 a
    rw [had b (by omega), had a (by omega)]
    omega
theorem sm_E_obj {ad : Nat → Nat} {g : Nat → ClassId} {q : sm_S} {f : Nat → Int32} {ci : Nat} {rs : List (Option Nat)} (h : q = (0, ci, rs)) : sm_E ad g q f = .inr (ci, sm_F ad ci rs f) := by subst h; rfl
theorem sm_E_arr {ad : Nat → Nat} {g : Nat → ClassId} {q : sm_S} {f : Nat → Int32} {t N : Nat} {rs : List (Option Nat)} (h : q = (t + 1, N, rs)) (ht : t < 3) : sm_E ad g q f = .inl (g t, N, .inl f) := by subst h; simp [sm_E, ht]
theorem sm_E_ref {ad : Nat → Nat} {g : Nat → ClassId} {q : sm_S} {f : Nat → Int32} {t N : Nat} {rs : List (Option Nat)} (h : q = (t + 1, N, rs)) (ht : 3 ≤ t) : sm_E ad g q f = .inl (g t, N, .inr (.inr (.inr (.inr (fun j => (rs.getD j none).map ad))))) := by subst h; simp [sm_E, Nat.not_lt.mpr ht]
theorem x_getI {idx ci k a : Nat} {rs : List (Option Nat)} (hd : decode μ.2.1 pc = .ok (.getfield idx, 3)) (hf : sm_Fg μ.1.cls idx ci k) (ha : a < n) (hs : sh a = (0, ci, rs)) (hi : (sm_ft ci).getD k false = true) (kk : Xm ζ R μ (pc + 3) lv (.int (I a k) :: st) cl sl n sh I Q) : Xm ζ R μ pc lv (.ref a :: st) cl sl n sh I Q := by
  intro Γ p l e s m args below meth c Z H locs ls C D
  obtain ⟨K, T, N, ty, ⟨h1, h2, h3, h4, h5⟩, hk, h8⟩ := hf
  have he := D.2.1.2.2 a ha
  rw [sm_E_obj hs] at he
  refine va_get (v := .int (I a k)) C.1 C.2.1 C.2.2.2.2.1 h3 C.2.2.2.1 C.2.2.2.2.2.2.1.2.1 (sm_one he) 0 rfl h1 k hk (C.2.2.2.2.1 _ h8) (fun _ h => h) ?_ hd (kk Γ p l e s m args below meth c Z H locs ls C D)
  rw [sm_F_at (by omega), if_pos hi]
theorem x_getR {idx ci k a b : Nat} {rs : List (Option Nat)} (hd : decode μ.2.1 pc = .ok (.getfield idx, 3)) (hf : sm_Fg μ.1.cls idx ci k) (ha : a < n) (hs : sh a = (0, ci, rs)) (hi : (sm_ft ci).getD k false = false) (hb : rs.getD k none = some b) (kk : Xm ζ R μ (pc + 3) lv (.ref b :: st) cl sl n sh I Q) : Xm ζ R μ pc lv (.ref a :: st) cl sl n sh I Q := by
  intro Γ p l e s m args below meth c Z H locs ls C D
  obtain ⟨K, T, N, ty, ⟨h1, h2, h3, h4, h5⟩, hk, h8⟩ := hf
  have he := D.2.1.2.2 a ha
  rw [sm_E_obj hs] at he
  refine va_get (v := .ref (Γ.2.1 b)) C.1 C.2.1 C.2.2.2.2.1 h3 C.2.2.2.1 C.2.2.2.2.2.2.1.2.1 (sm_one he) 0 rfl h1 k hk (C.2.2.2.2.1 _ h8) (fun _ h => h) ?_ hd (kk Γ p l e s m args below meth c Z H locs ls C D)
  rw [sm_F_at (by omega), if_neg (by rw [hi]; decide), hb]
  rfl
/-- putfield, any value: what the row gives, for the rules below -/
theorem sm_put {Γ : sm_G} {p : Program} {l : Launch} {e : Env} {s : State} {m : MethodId} {args : Array Value} {below : List Frame} {meth : Method} {c : Code} {Z : State → Prop} {H : Heap} {locs : List Loc} {ls : Array Slot} (C : sm_C ζ Γ R μ p l e s m args below meth c Z Q) (hS : va_S (fun q => Γ.1 ≤ q) s.heap H locs) (hH : sm_H Γ n sh I H)
    {idx ci k a : Nat} {t : FieldType} {fin : Bool} {rs : List (Option Nat)} {v : Value} {fs : List Value} {rest : List Value} (hd : decode μ.2.1 pc = .ok (.putfield idx, 3)) (hf : sm_Fl μ.1.cls idx ci k t fin) (hini : fin = true → μ.1.name = "<init>") (ha : a < n) (hs : sh a = (0, ci, rs)) (hn : narrow t v = v) (hfit : fits t v = true)
    {sh' : Nat → sm_S} {I' : sm_I} (hsh : ∀ b, b ≠ a → sh' b = sh b) (hI : ∀ b, b ≠ a → I' b = I b) (hE : sm_E Γ.2.1 Γ.2.2.2.1 (sh' a) (I' a) = .inr (ci, (sm_F Γ.2.1 ci rs (I a)).set k v))
    (kk : ∀ (H1 : Heap) (locs1 : List Loc), va_S (fun q => Γ.1 ≤ q) s.heap H1 locs1 → sm_H Γ n sh' I' H1 → W p l e R s m args below meth c H1 locs1 cl sl Z (F0 m (pc + 3) ls rest)) : W p l e R s m args below meth c H locs cl sl Z (F0 m pc ls (v :: .ref (Γ.2.1 a) :: rest)) := by
  obtain ⟨K, T, N, ty, ⟨h1, h2, h3, h4, h5⟩, hk, h6, h7, h8, h9⟩ := hf
  subst h6
  have hK := C.2.2.2.2.2.2.1
  have he := hH.2.2 a ha
  rw [sm_E_obj hs] at he
  have hts := C.2.2.2.2.1
  have hown := C.2.2.2.1
  have hap := va_apart (own := μ.1.cls) hts h3 ty h4 h5 hK.2.1 h1
  obtain ⟨r, g1, cell, q1, q2, q3, q4⟩ := he
  have hr : r = (K, T, N) := Option.some.inj (g1.symm.trans h1)
  subst hr
  obtain ⟨hSl, hfc, kC, hkC, hkind⟩ := hK.2.1.1 ci _ h1
  obtain ⟨cf, kf, fi, f, hi, hsl⟩ := hSl k hk
  have hlay := hts _ (h3 _ (u_in_lay hk))
  unfold u_lay at hlay
  have hst := (u_facts hfc hkC (u_lays hts h3 hk) hi).1
  have haA : Γ.1 ≤ Γ.2.1 a := by
    have := hH.2.1
    rw [hK.1 a (by omega)]; omega
  have key : ∀ H1 : Heap, H1[Γ.2.1 a]? = some (cell.setSlot f.slot v) → H1.size = H.size → (∀ q, q ≠ Γ.2.1 a → H1[q]? = H[q]?) → W p l e R s m args below meth c H1 (locs ++ [⟨Γ.2.1 a, f.slot⟩]) cl sl Z (F0 m (pc + 3) ls rest) := by
    intro H1 e1 e2 e3
    refine kk H1 _ (hS.put e2 e3 haA) (hH.put hK.1 ha e2 e3 hsh hI ?_)
    rw [hE]
    rw [hsl] at e1
    exact ⟨_, h1, t_OB.to (V := updV (vp_V (sm_F Γ.2.1 ci rs (I a))) k v) ⟨_, e1, q2, q3, t_set q4 hap hk v⟩ (fun j _ => vp_updV_set (by rw [sm_F_len]; omega) v j)⟩
  cases hfin : fin with
  | false =>
    rw [hfin] at h7
    rw [if_neg (by rw [h7]; decide)] at hlay
    have h10 := u_store hfc hkC hkind hlay hi (h4 k hk) hn hfit
    exact W.putK C.1 C.2.1 (f := f) ⟨hown, hts _ h8, ⟨_, _, _, hi⟩, hst⟩ (by rw [q2]; exact h10) q1 q3 (by rw [hsl]; exact k2_hasslot (q4 k hk)) rfl rfl hd key
  | true =>
    rw [hfin] at h7
    rw [if_pos h7] at hlay
    have hcf : m.cls = cf := by
      obtain ⟨_, _, c', _, _, _, -, -, hf', -, -, -, hown2, -⟩ := Cond.laysFinal_spec hlay
      have e1 : c' = cf := by have := hi.symm.trans hf'; simp at this; exact this.1.symm
      rw [h9 hfin] at hown2
      rw [← e1]; exact Option.some.inj (hown.symm.trans hown2)
    have h10 := u_fits hfc hkC hkind (Or.inr hlay) hi (h4 k hk) hn hfit
    exact W.putFinK C.1 C.2.1 hown (hts _ h8) hi hst hcf (C.2.2.2.2.2.1.trans (hini hfin)) (by rw [q2]; exact h10) q1 q3 (by rw [hsl]; exact k2_hasslot (q4 k hk)) rfl rfl hd key
theorem x_putI {idx ci k a : Nat} {t : FieldType} {fin : Bool} {rs : List (Option Nat)} {v : Int32} (hd : decode μ.2.1 pc = .ok (.putfield idx, 3)) (hf : sm_Fl μ.1.cls idx ci k t fin) (hini : fin = true → μ.1.name = "<init>") (ha : a < n) (hs : sh a = (0, ci, rs)) (hi : (sm_ft ci).getD k false = true) (hn : narrow t (.int v) = .int v) (hfit : fits t (.int v) = true) (kk : Xm ζ R μ (pc + 3) lv st cl sl n sh (up2 I a k v) Q) : Xm ζ R μ pc lv (.int v :: .ref a :: st) cl sl n sh I Q := by
  intro Γ p l e s m args below meth c Z H locs ls C D
  refine sm_put C D.1 D.2.1 (v := .int v) (fs := []) hd hf hini ha hs hn hfit (sh' := sh) (I' := up2 I a k v) (fun _ _ => rfl) (fun b hb => up2_ne hb) ?_ (fun H1 locs1 hS1 hH1 => kk Γ p l e s m args below meth c Z H1 locs1 ls C ⟨hS1, hH1, D.2.2⟩)
  rw [sm_E_obj hs, up2_row, sm_F_setI hi]
theorem x_putR {idx ci k a b : Nat} {t : FieldType} {fin : Bool} {rs : List (Option Nat)} (hd : decode μ.2.1 pc = .ok (.putfield idx, 3)) (hf : sm_Fl μ.1.cls idx ci k t fin) (hini : fin = true → μ.1.name = "<init>") (ha : a < n) (hs : sh a = (0, ci, rs)) (hi : (sm_ft ci).getD k false = false) (hl : rs.length = (sm_ft ci).length) (hn : ∀ x : Nat, narrow t (.ref x) = .ref x) (hfit : ∀ x : Nat, fits t (.ref x) = true) (kk : Xm ζ R μ (pc + 3) lv st cl sl n (va_up sh a (0, ci, rs.set k (some b))) I Q) : Xm ζ R μ pc lv (.ref b :: .ref a :: st) cl sl n sh I Q := by
  intro Γ p l e s m args below meth c Z H locs ls C D
  refine sm_put C D.1 D.2.1 (v := .ref (Γ.2.1 b)) (fs := []) hd hf hini ha hs (hn _) (hfit _) (sh' := va_up sh a (0, ci, rs.set k (some b))) (I' := I) (fun b hb => by simp [va_up, hb]) (fun b hb => rfl) ?_ (fun H1 locs1 hS1 hH1 => kk Γ p l e s m args below meth c Z H1 locs1 ls C ⟨hS1, hH1, D.2.2⟩)
  rw [show va_up sh a (0, ci, rs.set k (some b)) a = (0, ci, rs.set k (some b)) by simp [va_up], sm_E_obj rfl, sm_F_setR hi hl]
/-! ===== arrays ===== -/
theorem sm_ty_at {Γ : sm_G} {t : Nat} (ht : t < 6) : (sm_tys Γ.2.2.2.1)[t]? = some (Γ.2.2.2.1 t, sm_ty t) := by
  match t, ht with
  | 0, _ => rfl
  | 1, _ => rfl
  | 2, _ => rfl
  | 3, _ => rfl
  | 4, _ => rfl
  | 5, _ => rfl
theorem x_iald {a N : Nat} {i : Int32} {rs : List (Option Nat)} (hd : decode μ.2.1 pc = .ok (.iaload, 1)) (ha : a < n) (hs : sh a = (1, N, rs)) (hin : vp_in i N) (kk : Xm ζ R μ (pc + 1) lv (.int (I a i.toNatClampNeg) :: st) cl sl n sh I Q) : Xm ζ R μ pc lv (.int i :: .ref a :: st) cl sl n sh I Q := by
  intro Γ p l e s m args below meth c Z H locs ls C D
  have he := D.2.1.2.2 a ha
  rw [sm_E_arr (t := 0) hs (by decide)] at he
  exact va_iald C.1 C.2.1 C.2.2.2.2.2.2.1.2.1 (sm_one he) 0 0 rfl rfl hin hd (kk Γ p l e s m args below meth c Z H locs ls C D)
theorem x_zald {a N : Nat} {i : Int32} {rs : List (Option Nat)} (hd : decode μ.2.1 pc = .ok (.baload, 1)) (ha : a < n) (hs : sh a = (2, N, rs)) (hin : vp_in i N) (kk : Xm ζ R μ (pc + 1) lv (.int (I a i.toNatClampNeg) :: st) cl sl n sh I Q) : Xm ζ R μ pc lv (.int i :: .ref a :: st) cl sl n sh I Q := by
  intro Γ p l e s m args below meth c Z H locs ls C D
  have he := D.2.1.2.2 a ha
  rw [sm_E_arr (t := 1) hs (by decide)] at he
  exact va_zald C.1 C.2.1 C.2.2.2.2.2.2.1.2.1 (sm_one he) 0 1 rfl rfl hin hd (kk Γ p l e s m args below meth c Z H locs ls C D)
theorem x_bald {a N : Nat} {i : Int32} {rs : List (Option Nat)} (hd : decode μ.2.1 pc = .ok (.baload, 1)) (ha : a < n) (hs : sh a = (3, N, rs)) (hin : vp_in i N) (kk : Xm ζ R μ (pc + 1) lv (.int (I a i.toNatClampNeg) :: st) cl sl n sh I Q) : Xm ζ R μ pc lv (.int i :: .ref a :: st) cl sl n sh I Q := by
  intro Γ p l e s m args below meth c Z H locs ls C D
  have he := D.2.1.2.2 a ha
  rw [sm_E_arr (t := 2) hs (by decide)] at he
  exact va_bald C.1 C.2.1 C.2.2.2.2.2.2.1.2.1 (sm_one he) 0 2 rfl rfl hin hd (kk Γ p l e s m args below meth c Z H locs ls C D)
theorem x_aald {a N t b : Nat} {i : Int32} {rs : List (Option Nat)} (hd : decode μ.2.1 pc = .ok (.aaload, 1)) (ha : a < n) (hs : sh a = (t + 1, N, rs)) (ht : 3 ≤ t ∧ t < 6) (hin : vp_in i N) (hb : rs.getD i.toNatClampNeg none = some b) (kk : Xm ζ R μ (pc + 1) lv (.ref b :: st) cl sl n sh I Q) : Xm ζ R μ pc lv (.int i :: .ref a :: st) cl sl n sh I Q := by
  intro Γ p l e s m args below meth c Z H locs ls C D
  have he := D.2.1.2.2 a ha
  rw [sm_E_ref hs ht.1] at he
  have hty : ∃ K, sm_ty t = .object K := by
    obtain ⟨h3, h6⟩ := ht
    rcases (show t = 3 ∨ t = 4 ∨ t = 5 by omega) with rfl | rfl | rfl <;> exact ⟨_, rfl⟩
  obtain ⟨K, hK⟩ := hty
  have hk := kk Γ p l e s m args below meth c Z H locs ls C D
  refine va_aldq (C := K) C.1 C.2.1 C.2.2.2.2.2.2.1.2.1 (sm_one he) 0 t rfl (by rw [sm_ty_at ht.2, hK]) hin hd ?_
  rw [hb]
  exact hk
theorem x_alen {a N t : Nat} {rs : List (Option Nat)} (hd : decode μ.2.1 pc = .ok (.arraylength, 1)) (ha : a < n) (hs : sh a = (t + 1, N, rs)) (ht : t < 3) (kk : Xm ζ R μ (pc + 1) lv (.int (Int32.ofNat N) :: st) cl sl n sh I Q) : Xm ζ R μ pc lv (.ref a :: st) cl sl n sh I Q := by
  intro Γ p l e s m args below meth c Z H locs ls C D
  have he := D.2.1.2.2 a ha
  rw [sm_E_arr hs ht] at he
  exact va_alen C.1 C.2.1 C.2.2.2.2.2.2.1.2.1 (sm_one he) 0 t rfl (sm_ty_at (by omega)) rfl hd (kk Γ p l e s m args below meth c Z H locs ls C D)
theorem sm_base {Γ : sm_G} (had : ∀ k, k < 1000000 → Γ.2.1 k = Γ.1 + k) {H : Heap} (hH : sm_H Γ n sh I H) {a : Nat} (ha : a < n) : Γ.1 ≤ Γ.2.1 a := by
  have := hH.2.1
  rw [had a (by omega)]; omega
theorem sm_row {cA : ClassId} {N k : Nat} {f : Nat → Int32} {v : Int32} : (arrV cA N (fun j => .int (f j))).setSlot k (.int v) = arrV cA N (fun j => .int (upd f k v j)) := by
  rw [arrV_store]
  congr 1
  funext q
  by_cases hq : q = k
  · subst hq; simp [updV, upd]
  · simp [updV, upd, hq]
theorem x_iast {a N : Nat} {i v : Int32} {rs : List (Option Nat)} (hd : decode μ.2.1 pc = .ok (.iastore, 1)) (ha : a < n) (hs : sh a = (1, N, rs)) (hin : vp_in i N) (kk : Xm ζ R μ (pc + 1) lv st cl sl n sh (up2 I a i.toNatClampNeg v) Q) : Xm ζ R μ pc lv (.int v :: .int i :: .ref a :: st) cl sl n sh I Q := by
  intro Γ p l e s m args below meth c Z H locs ls C D
  have hK := C.2.2.2.2.2.2.1
  have he := D.2.1.2.2 a ha
  rw [sm_E_arr (t := 0) hs (by decide)] at he
  refine W.iast C.1 C.2.1 he ((hK.2.1.2 0 _ rfl).1 N (fun j => .int (I a j))) (fun q => by cases q) (by show ¬ (i < 0 ∨ (arrV _ _ _).slots.size ≤ _); rw [arrV_size]; exact hin) rfl rfl hd fun H1 e1 z oq => ?_
  refine kk Γ p l e s m args below meth c Z H1 _ ls C ⟨D.1.put z oq (sm_base hK.1 D.2.1 ha), D.2.1.put hK.1 ha z oq (fun _ _ => rfl) (fun b hb => up2_ne hb) ?_, D.2.2⟩
  rw [sm_E_arr (t := 0) hs (by decide), up2_row]
  exact e1.trans (congrArg some sm_row)
theorem x_bast {a N : Nat} {i v w : Int32} {rs : List (Option Nat)} (hd : decode μ.2.1 pc = .ok (.bastore, 1)) (ha : a < n) (hs : sh a = (3, N, rs)) (hin : vp_in i N) (hw : narrow .byte (.int v) = .int w) (kk : Xm ζ R μ (pc + 1) lv st cl sl n sh (up2 I a i.toNatClampNeg w) Q) : Xm ζ R μ pc lv (.int v :: .int i :: .ref a :: st) cl sl n sh I Q := by
  intro Γ p l e s m args below meth c Z H locs ls C D
  have hK := C.2.2.2.2.2.2.1
  have he := D.2.1.2.2 a ha
  rw [sm_E_arr (t := 2) hs (by decide)] at he
  refine W.bast C.1 C.2.1 he ((hK.2.1.2 2 _ rfl).1 N (fun j => .int (I a j))) (fun q => by cases q) (by show ¬ (i < 0 ∨ (arrV _ _ _).slots.size ≤ _); rw [arrV_size]; exact hin) rfl rfl hd fun H1 e1 z oq => ?_
  rw [hw] at e1
  refine kk Γ p l e s m args below meth c Z H1 _ ls C ⟨D.1.put z oq (sm_base hK.1 D.2.1 ha), D.2.1.put hK.1 ha z oq (fun _ _ => rfl) (fun b hb => up2_ne hb) ?_, D.2.2⟩
  rw [sm_E_arr (t := 2) hs (by decide), up2_row]
  exact e1.trans (congrArg some sm_row)
theorem x_zast {a N : Nat} {i v w : Int32} {rs : List (Option Nat)} (hd : decode μ.2.1 pc = .ok (.bastore, 1)) (ha : a < n) (hs : sh a = (2, N, rs)) (hin : vp_in i N) (hw : narrow .boolean (.int v) = .int w) (kk : Xm ζ R μ (pc + 1) lv st cl sl n sh (up2 I a i.toNatClampNeg w) Q) : Xm ζ R μ pc lv (.int v :: .int i :: .ref a :: st) cl sl n sh I Q := by
  intro Γ p l e s m args below meth c Z H locs ls C D
  have hK := C.2.2.2.2.2.2.1
  have he := D.2.1.2.2 a ha
  rw [sm_E_arr (t := 1) hs (by decide)] at he
  refine W.zast C.1 C.2.1 he ((hK.2.1.2 1 _ rfl).1 N (fun j => .int (I a j))) (fun q => by cases q) (by show ¬ (i < 0 ∨ (arrV _ _ _).slots.size ≤ _); rw [arrV_size]; exact hin) rfl rfl hd fun H1 e1 z oq => ?_
  rw [hw] at e1
  refine kk Γ p l e s m args below meth c Z H1 _ ls C ⟨D.1.put z oq (sm_base hK.1 D.2.1 ha), D.2.1.put hK.1 ha z oq (fun _ _ => rfl) (fun b hb => up2_ne hb) ?_, D.2.2⟩
  rw [sm_E_arr (t := 1) hs (by decide), up2_row]
  exact e1.trans (congrArg some sm_row)
/-- a reference into an array of references (constructors alone do that) -/
theorem x_aast {a b N t ci : Nat} {i : Int32} {rs qs : List (Option Nat)} {K : vw_C} (hd : decode μ.2.1 pc = .ok (.aastore, 1)) (ha : a < n) (hs : sh a = (t + 1, N, rs)) (ht : 3 ≤ t ∧ t < 6) (hb : b < n) (hsb : sh b = (0, ci, qs)) (hc : vwCl[ci]? = some K) (hty : sm_ty t = .object K.1) (hin : vp_in i N) (hl : rs.length = N) (kk : Xm ζ R μ (pc + 1) lv st cl sl n (va_up sh a (t + 1, N, rs.set i.toNatClampNeg (some b))) I Q) : Xm ζ R μ pc lv (.ref b :: .int i :: .ref a :: st) cl sl n sh I Q := by
  intro Γ p l e s m args below meth c Z H locs ls C D
  have hK := C.2.2.2.2.2.2.1
  have he := D.2.1.2.2 a ha
  rw [sm_E_ref hs ht.1] at he
  have hv := D.2.1.2.2 b hb
  rw [sm_E_obj hsb] at hv
  have hlt : i.toNatClampNeg < N := Nat.not_le.mp fun q => hin (Or.inr q)
  have h0 : ¬ i < 0 := fun q => hin (Or.inl q)
  obtain ⟨r', hr', cellV, g1, g2, g3, -⟩ := hv
  have hcls := (hK.2.1.1 ci K hc).2
  have hRA := (hK.2.1.2 t _ (sm_ty_at ht.2)).2
  dsimp only at hRA
  rw [hty] at hRA
  obtain ⟨kA, comp, k1, k2, k3, -⟩ := hRA
  have hcomp : comp = Γ.2.2.1.1 ci := Option.some.inj (k3.symm.trans hcls.1)
  subst hcomp
  obtain ⟨kC, hkC, -⟩ := hcls.2
  refine W.aast C.1 C.2.1 he (fun q h => by cases h) (fun h => by cases h) k1 k2 rfl hkC ⟨h0, by show _ < (arrV _ _ _).slots.size; rw [arrV_size]; exact hlt⟩ g1 (fun q h => by rw [g3] at h; cases h) (by rw [g2]; exact hkC) (by rw [g2]; exact va_assign hcls) rfl rfl hd fun H1 e1 z oq => ?_
  refine kk Γ p l e s m args below meth c Z H1 _ ls C ⟨D.1.put z oq (sm_base hK.1 D.2.1 ha), D.2.1.put hK.1 ha z oq (fun b hb => by simp [va_up, hb]) (fun b hb => rfl) ?_, D.2.2⟩
  rw [show va_up sh a (t + 1, N, rs.set i.toNatClampNeg (some b)) a = (t + 1, N, rs.set i.toNatClampNeg (some b)) by simp [va_up], sm_E_ref rfl ht.1]
  refine e1.trans (congrArg some ?_)
  show (arrV _ _ _).setSlot _ _ = vp_cell _ _
  rw [vp_cell_q, arrV_store]
  congr 1
  funext q
  by_cases hq : q = i.toNatClampNeg
  · subst hq
    simp [updV, va_rf, List.getD_eq_getElem?_getD, hl, hlt]
  · simp [updV, hq, List.getD_eq_getElem?_getD, List.getElem?_set_ne (Ne.symm hq)]
/-! ===== new cells ===== -/
theorem sm_H.push {Γ : sm_G} {q : sm_S} {f : Nat → Int32} {H H1 : Heap} (h : sm_H Γ n sh I H) (had : ∀ k, k < 1000000 → Γ.2.1 k = Γ.1 + k) (hn : n < 1000000) (hz : H1.size = H.size + 1) (ho : ∀ q, q < H.size → H1[q]? = H[q]?) (he : va_at Γ.2.2.1 vwCl (H.size, sm_E Γ.2.1 Γ.2.2.2.1 q f) H1) : sm_H Γ (n + 1) (va_up sh n q) (va_up I n f) H1 := by
  refine ⟨by rw [hz, h.1]; omega, by omega, fun b hb => ?_⟩
  by_cases hbn : b = n
  · subst hbn
    rw [show va_up sh b q b = q by simp [va_up], show va_up I b f b = f by simp [va_up], had b hn, ← h.1]
    exact he
  · rw [show va_up sh n q b = sh b by simp [va_up, hbn], show va_up I n f b = I b by simp [va_up, hbn]]
    exact (h.2.2 b (by omega)).kept (ho _ ((h.2.2 b (by omega)).lt))
theorem sm_S_push {Γ : sm_G} {s : State} {H H1 : Heap} {locs : List Loc} (hS : va_S (fun q => Γ.1 ≤ q) s.heap H locs) (hz : H1.size = H.size + 1) (ho : ∀ q, q < H.size → H1[q]? = H[q]?) : va_S (fun q => Γ.1 ≤ q) s.heap H1 locs :=
  ⟨Nat.le_trans hS.1 (by omega), fun x h1 h2 => (ho x (Nat.lt_of_lt_of_le h1 hS.1)).trans (hS.2.1 x h1 h2), hS.2.2⟩
theorem sm_new {Γ : sm_G} {H : Heap} (h : sm_H Γ n sh I H) (had : ∀ k, k < 1000000 → Γ.2.1 k = Γ.1 + k) (hn : n < 1000000) : Γ.2.1 n = H.size := by rw [had n hn, h.1]
theorem x_newa {atype : ArrayType} {t N : Nat} {v : Int32} (hd : decode μ.2.1 pc = .ok (.newarray atype, 2)) (ht : t < 3) (hty : newarray.typeOf atype = sm_ty t) (hdf : defaultValue (sm_ty t) = .int 0) (hw : Cond.arrayClass (newarray.typeOf atype) ∈ lw_good) (hv : ¬ v < 0) (hN : v.toNatClampNeg = N) (hby : N * componentBytes (newarray.typeOf atype) ≤ 536870912) (hc : cl + 1 ≤ R.cells) (hsl : sl + N ≤ R.slots) (hn : n < 1000000)
    (kk : Xm ζ R μ (pc + 2) lv (.ref n :: st) (cl + 1) (sl + N) (n + 1) (va_up sh n (t + 1, N, [])) (va_up I n (fun _ => 0)) Q) : Xm ζ R μ pc lv (.int v :: st) cl sl n sh I Q := by
  intro Γ p l e s m args below meth c Z H locs ls C D
  have hK := C.2.2.2.2.2.2.1
  refine va_newaK C.1 C.2.1 (C.2.2.2.2.1 _ hw) rfl hd rfl hv hN hby hc hsl rfl fun H1 cA e1 z1 o1 hAr hNm => ?_
  have hk := kk Γ p l e s m args below meth c Z H1 locs ls C ⟨sm_S_push D.1 z1 o1, D.2.1.push hK.1 hn z1 o1 ?_, D.2.2⟩
  · rw [← sm_new D.2.1 hK.1 hn]
    exact hk
  · rw [sm_E_arr rfl ht]
    have hcA : cA = Γ.2.2.2.1 t := by
      have h1 := (hK.2.1.2 t _ (sm_ty_at (by omega))).2
      rw [hty] at hNm
      match t, ht with
      | 0, _ => exact Option.some.inj (hNm.symm.trans h1)
      | 1, _ => exact Option.some.inj (hNm.symm.trans h1)
      | 2, _ => exact Option.some.inj (hNm.symm.trans h1)
    subst hcA
    rw [hty, hdf] at e1
    exact e1
theorem x_newq {idx t N : Nat} {K : String} {v : Int32} (hd : decode μ.2.1 pc = .ok (.anewarray idx, 3)) (ht : 3 ≤ t ∧ t < 6) (hty : sm_ty t = .object K) (hw : Cond.classLink μ.1.cls idx K ∈ lw_good) (hv : ¬ v < 0) (hN : v.toNatClampNeg = N) (hby : N * 4 ≤ 536870912) (hc : cl + 1 ≤ R.cells) (hsl : sl + N ≤ R.slots) (hn : n < 1000000)
    (kk : Xm ζ R μ (pc + 3) lv (.ref n :: st) (cl + 1) (sl + N) (n + 1) (va_up sh n (t + 1, N, List.replicate N none)) (va_up I n (fun _ => 0)) Q) : Xm ζ R μ pc lv (.int v :: st) cl sl n sh I Q := by
  intro Γ p l e s m args below meth c Z H locs ls C D
  have hK := C.2.2.2.2.2.2.1
  have hAO : va_AO K s := by
    obtain ⟨a1, a2, a3, -, -⟩ := hK.2.2.1
    obtain ⟨h3, h6⟩ := ht
    rcases (show t = 3 ∨ t = 4 ∨ t = 5 by omega) with rfl | rfl | rfl <;> (cases hty; assumption)
  subst hN
  refine W.anew C.1 C.2.1 C.2.2.2.1 (C.2.2.2.2.1 _ hw) (va_AO.use hAO) rfl hd rfl hv hby hc hsl fun cA kA comp f1 f2 f3 f4 => ?_
  generalize hH1 : H.push ({ cls := cA, slots := Array.replicate v.toNatClampNeg .null, vm := .none } : Cell) = H1
  have z1 : H1.size = H.size + 1 := by rw [← hH1, Array.size_push]
  have e1 : H1[H.size]? = some (arrV cA v.toNatClampNeg (fun _ => .null)) := by rw [← hH1, Array.getElem?_push_size, ← arrV_new]
  have o1 : ∀ q : Nat, q < H.size → H1[q]? = H[q]? := fun q hq => by rw [← hH1, Array.getElem?_push, if_neg (Nat.ne_of_lt hq)]
  have hk := kk Γ p l e s m args below meth c Z H1 locs ls C ⟨sm_S_push D.1 z1 o1, D.2.1.push hK.1 hn z1 o1 ?_, D.2.2⟩
  · rw [← sm_new D.2.1 hK.1 hn]
    exact hk
  · rw [sm_E_ref rfl ht.1]
    have hcA : cA = Γ.2.2.2.1 t := by
      have h1 := (hK.2.1.2 t _ (sm_ty_at ht.2)).2
      dsimp only at h1
      rw [hty] at h1
      obtain ⟨kA', comp', -, -, -, h9⟩ := h1
      exact Option.some.inj (f1.symm.trans h9)
    subst hcA
    show H1[H.size]? = some (vp_cell _ _)
    rw [vp_cell_q, e1]
    congr 2
    funext j
    rw [List.getD_eq_getElem?_getD]
    by_cases hj : j < v.toNatClampNeg
    · rw [List.getElem?_replicate, if_pos hj]; rfl
    · rw [List.getElem?_replicate, if_neg hj]; rfl
theorem x_new {idx ci N : Nat} {K : String} {T : u_T} {ty : Nat → FieldType} (hd : decode μ.2.1 pc = .ok (.new idx, 3)) (hcl : sm_Cl ci K T N ty) (hdf : ∀ j, j < N → defaultValue (ty j) = if (sm_ft ci).getD j false = true then .int 0 else .null) (hw : Cond.classLink μ.1.cls idx K ∈ lw_good) (hw2 : Cond.instantiable K N ∈ lw_good) (hw3 : Cond.initialized K ∈ lw_good) (hc : cl + 1 ≤ R.cells) (hsl : sl + N ≤ R.slots) (hn : n < 1000000)
    (kk : Xm ζ R μ (pc + 3) lv (.ref n :: st) (cl + 1) (sl + N) (n + 1) (va_up sh n (0, ci, List.replicate N none)) (va_up I n (fun _ => 0)) Q) : Xm ζ R μ pc lv st cl sl n sh I Q := by
  intro Γ p l e s m args below meth c Z H locs ls C D
  have hK := C.2.2.2.2.2.2.1
  obtain ⟨h1, h2, h3, h4, h5⟩ := hcl
  have hKn := hK.2.1.1 ci _ h1
  refine W.newcK C.1 C.2.1 C.2.2.2.1 (C.2.2.2.2.1 _ hw) (C.2.2.2.2.1 _ hw2) (C.2.2.2.2.1 _ hw3) rfl hd hc hsl hKn.2.1 rfl fun H1 kC hkC e1 z1 o1 => ?_
  have hk := kk Γ p l e s m args below meth c Z H1 locs ls C ⟨sm_S_push D.1 z1 o1, D.2.1.push hK.1 hn z1 o1 ?_, D.2.2⟩
  · rw [← sm_new D.2.1 hK.1 hn]
    exact hk
  · rw [sm_E_obj rfl]
    refine ⟨_, h1, (u_born ty C.2.2.2.2.1 h3 hKn hkC e1 h4).to (fun j hj => ?_)⟩
    rw [hdf j hj]
    have hA := sm_F_at (ad := Γ.2.1) (rs := List.replicate N none) (f := fun _ => 0) (c := ci) (k := j) (by omega)
    show _ = (sm_F Γ.2.1 ci (List.replicate N none) fun _ => 0).getD j Value.null
    rw [List.getD_eq_getElem?_getD (l := sm_F Γ.2.1 ci (List.replicate N none) fun _ => 0), hA]
    by_cases hi : (sm_ft ci).getD j false = true
    · rw [if_pos hi, if_pos hi]; rfl
    · rw [if_neg hi, if_neg hi, List.getD_eq_getElem?_getD, List.getElem?_replicate, if_pos hj]; rfl
theorem x_objInit {idx a : Nat} (hd : decode μ.2.1 pc = .ok (.invokespecial idx, 3)) (hw : Cond.methodLink μ.1.cls idx objectInit ∈ lw_good) (hw2 : Cond.instanceMethod objectInit ∈ lw_good) (hw3 : Cond.code objectInit ⟨#[0xb1]⟩ 1 none ∈ lw_good) (hf : 1 ≤ R.frames) (hlo : (st.map fun v => v.category).sum + 12 ≤ R.locals) (kk : Xm ζ R μ (pc + 3) lv st cl sl n sh I Q) : Xm ζ R μ pc lv (.ref a :: st) cl sl n sh I Q := by
  intro Γ p l e s m args below meth c Z H locs ls C D
  have hcat : ((st.map (sm_V Γ.2.1)).map fun v => v.category) = st.map fun v => v.category := by
    rw [List.map_map]
    exact List.map_congr_left fun v _ => sm_V_cat _ v
  refine W.objInit C.1 C.2.1 C.2.2.2.1 (C.2.2.2.2.1 _ hw) (C.2.2.2.2.1 _ hw2) (C.2.2.2.2.1 _ hw3) rfl (by rw [C.2.2.1]; exact D.2.2.1) rfl hd hf ?_ (kk Γ p l e s m args below meth c Z H locs ls C D)
  rw [hcat]
  show 2 * 0 + _ + 12 ≤ _
  omega
/-! ===== calls ===== -/
theorem sm_call {Γ : sm_G} {p : Program} {l : Launch} {e : Env} {s : State} {m : MethodId} {args : Array Value} {below : List Frame} {meth : Method} {c : Code} {Z : State → Prop} {H : Heap} {locs : List Loc} {ls : Array Slot} {mc ms : Nat} {st0 rest : List Value} {a : Array Value} {Q' : sm_Qt}
    (hr : va_Run p l e R s m args below meth c H locs cl sl mc ms (F0 m pc ls st0) rest (sm_Qc Γ Q' a) (fun q => Γ.1 ≤ q)) (hS : va_S (fun q => Γ.1 ≤ q) s.heap H locs)
    (kk : ∀ (r : Option Value) (n' : Nat) (sh' : Nat → sm_S) (I' : sm_I) (H1 : Heap) (locs1 : List Loc), Q' r n' sh' I' → sm_H Γ n' sh' I' H1 → va_S (fun q => Γ.1 ≤ q) s.heap H1 locs1 → W p l e R s m args below meth c H1 locs1 (cl + mc) (sl + ms) Z (F0 m (pc + 3) ls ((r.map (sm_V Γ.2.1)).toList ++ rest))) : W p l e R s m args below meth c H locs cl sl Z (F0 m pc ls st0) := by
  intro T hT X
  obtain ⟨v, st₀, t, T', L, h0, X', hL, e1, e2, ⟨⟨r, n', sh', I', hv, hq, hH⟩, hz, hk⟩, st⟩ := hr T hT X
  rw [h0] at hz hk
  have hv' : v = r.map (sm_V Γ.2.1) := Outcome.returned.inj hv
  subst hv'
  obtain ⟨t2, a1, b1⟩ := kk r n' sh' I' T'.heap (locs ++ L) hq (by rw [e1]; exact hH)
    ⟨Nat.le_trans hS.1 (by rw [e1]; exact hz), fun q h1 h2 => by rw [e1, hk q (Nat.lt_of_lt_of_le h1 hS.1) h2]; exact hS.2.1 q h1 h2, fun q hq => by
      rcases List.mem_append.mp hq with h | h
      · exact hS.2.2 q h
      · exact hL q h⟩ T' rfl X'
  exact ⟨t2, st t2 a1, b1⟩
/-- a method that can be called: its words -/
def sm_Me (μ' : sm_Mu) (k : Nat) : Prop := Cond.code μ'.1 μ'.2.1 μ'.2.2.1 μ'.2.2.2 ∈ lw_good ∧ Cond.initialized μ'.1.cls ∈ lw_good ∧ (μ'.1.cls ≠ "java/lang/invoke/MethodHandle" ∧ μ'.1.cls ≠ "java/lang/invoke/VarHandle") ∧ (parseMethodDescriptor μ'.1.desc).map (fun d => d.parameters.length) = some k
theorem sm_good_pay {args : Array Value} {s : State} (hts : ∀ w ∈ lw_good, w.before args s = true) {μ' : sm_Mu} (h : Cond.code μ'.1 μ'.2.1 μ'.2.2.1 μ'.2.2.2 ∈ lw_good) : ∀ w ∈ sm_ws μ', ∀ (a' : Array Value) (U : State), s.WarmedH U.vm → w.before a' U = true := by
  refine pay_in hts (fun w hw => ?_)
  rcases List.mem_cons.mp hw with rfl | hw
  · exact ⟨h, good_of_word (lw_good_good h)⟩
  · exact ⟨hw, good_of_word (lw_good_good hw)⟩
theorem sm_CB {s : State} {args : Array Value} {own : String} {idx d mc ms k : Nat} {μ' : sm_Mu} (hts : ∀ w ∈ lw_good, w.before args s = true) (hm : sm_Me μ' k) (hl : Cond.methodLink own idx μ'.1 ∈ lw_good) (hroom : d + 1 ≤ R.frames ∧ 8 + (μ'.2.2.1 + 11) + 40 * d ≤ R.locals) : CallB R s args own idx μ'.1 μ'.2.1 μ'.2.2.1 μ'.2.2.2 (sm_ws μ') (sm_rm d mc ms) mc ms k := by
  obtain ⟨h1, h2, h3, h4⟩ := hm
  refine ⟨rfl, rfl, hroom.1, hroom.2, sm_good_pay hts h1, List.mem_cons_self, hts _ h1, hts _ h2, h3, fun sig h => ?_, hts _ hl⟩
  rw [h] at h4
  exact (Option.some.inj h4).symm
theorem sm_catsum (ad : Nat → Nat) (st : List Value) : ((st.map (sm_V ad)).map fun v => v.category) = st.map fun v => v.category := by
  rw [List.map_map]
  exact List.map_congr_left fun v _ => sm_V_cat _ v
theorem x_callV {idx d mc ms a ci : Nat} {μ' : sm_Mu} {as stk : List Value} {Q' : sm_Qt} {rs : List (Option Nat)} {K : vw_C} (hd : decode μ.2.1 pc = .ok (.invokevirtual idx, 3)) (hE : Em d mc ms μ' (.ref a :: as) n sh I Q') (hstk : stk = as.reverse ++ .ref a :: st) (hm : sm_Me μ' as.length) (hin : Cond.instanceMethod μ'.1 ∈ lw_good) (hsel : Cond.selects μ'.1.cls μ'.1 μ'.1 ∈ lw_good) (hl : Cond.methodLink μ.1.cls idx μ'.1 ∈ lw_good) (ha : a < n) (hs : sh a = (0, ci, rs)) (hc : vwCl[ci]? = some K) (hK : K.1 = μ'.1.cls)
    (hroom : d + 1 ≤ R.frames ∧ 8 + (μ'.2.2.1 + 11) + 40 * d ≤ R.locals) (hcs : cl + mc ≤ R.cells ∧ sl + ms ≤ R.slots) (hst : (st.map fun v => v.category).sum ≤ 8)
    (kk : ∀ r n' sh' I', Q' r n' sh' I' → Xm ζ R μ (pc + 3) lv (r.toList ++ st) (cl + mc) (sl + ms) n' sh' I' Q) : Xm ζ R μ pc lv stk cl sl n sh I Q := by
  intro Γ p l e s m args below meth c Z H locs ls C D
  subst hstk
  have hKs := C.2.2.2.2.2.2.1
  have hts := C.2.2.2.2.1
  have he := D.2.1.2.2 a ha
  rw [sm_E_obj hs] at he
  obtain ⟨r', g1, cell, q1, q2, q3, -⟩ := he
  refine sm_call (rest := st.map (sm_V Γ.2.1)) (va_runV (As := as.map (sm_V Γ.2.1)) (rest := st.map (sm_V Γ.2.1)) (b := Γ.2.1 a) (C := μ'.1.cls) ⟨C.1, C.2.1, C.2.2.1, C.2.2.2.1, hts⟩ (hE ζ l Γ) ⟨sm_CB hts hm hl hroom, hts _ hin, hts _ hsel⟩ ⟨sm_Pc.blind, ⟨cell, q1, by rw [q3]; rfl, ?_⟩, fun U hU hW => ⟨rfl, by rw [hU]; exact D.2.1, hKs.pass hW (by rw [hU]; exact D.1)⟩⟩ rfl (List.length_map ..) D.2.2.1 ?_ ?_ hd hcs) D.1 (fun r n' sh' I' H1 locs1 hq hH1 hS1 => ?_)
  · rw [q2, ← hK]
    exact (hKs.2.1.1 ci K hc).2.1
  · simp [sm_V]
  · show 2 * 0 + _ ≤ 8
    rw [sm_catsum]; omega
  · have h := kk r n' sh' I' hq Γ p l e s m args below meth c Z H1 locs1 ls C ⟨hS1, hH1, D.2.2⟩
    cases r <;> exact h
theorem x_callS {idx d mc ms : Nat} {μ' : sm_Mu} {as stk : List Value} {Q' : sm_Qt} (hd : decode μ.2.1 pc = .ok (.invokestatic idx, 3)) (hE : Em d mc ms μ' as n sh I Q') (hstk : stk = as.reverse ++ st) (hm : sm_Me μ' as.length) (hstt : Cond.static μ'.1 ∈ lw_good) (hl : Cond.methodLink μ.1.cls idx μ'.1 ∈ lw_good)
    (hroom : d + 1 ≤ R.frames ∧ 8 + (μ'.2.2.1 + 11) + 40 * d ≤ R.locals) (hcs : cl + mc ≤ R.cells ∧ sl + ms ≤ R.slots) (hst : (st.map fun v => v.category).sum ≤ 8)
    (kk : ∀ r n' sh' I', Q' r n' sh' I' → Xm ζ R μ (pc + 3) lv (r.toList ++ st) (cl + mc) (sl + ms) n' sh' I' Q) : Xm ζ R μ pc lv stk cl sl n sh I Q := by
  intro Γ p l e s m args below meth c Z H locs ls C D
  subst hstk
  have hKs := C.2.2.2.2.2.2.1
  have hts := C.2.2.2.2.1
  refine sm_call (rest := st.map (sm_V Γ.2.1)) (va_runS (As := as.map (sm_V Γ.2.1)) (rest := st.map (sm_V Γ.2.1)) ⟨C.1, C.2.1, C.2.2.1, C.2.2.2.1, hts⟩ (hE ζ l Γ) ⟨sm_CB hts hm hl hroom, hts _ hstt⟩ ⟨sm_Pc.blind, fun U hU hW => ⟨rfl, by rw [hU]; exact D.2.1, hKs.pass hW (by rw [hU]; exact D.1)⟩⟩ rfl (List.length_map ..) D.2.2.1 ?_ ?_ hd hcs) D.1 (fun r n' sh' I' H1 locs1 hq hH1 hS1 => ?_)
  · simp [sm_V]
  · show 2 * 0 + _ ≤ 8
    rw [sm_catsum]; omega
  · have h := kk r n' sh' I' hq Γ p l e s m args below meth c Z H1 locs1 ls C ⟨hS1, hH1, D.2.2⟩
    cases r <;> exact h
theorem x_callI {idx d mc ms a : Nat} {μ' : sm_Mu} {as stk : List Value} {Q' : sm_Qt} (hd : decode μ.2.1 pc = .ok (.invokespecial idx, 3)) (hE : Em d mc ms μ' (.ref a :: as) n sh I Q') (hstk : stk = as.reverse ++ .ref a :: st) (hret : μ'.2.2.2 = none) (hnm : μ'.1.name = "<init>") (hm : sm_Me μ' as.length) (hin : Cond.instanceMethod μ'.1 ∈ lw_good) (hl : Cond.methodLink μ.1.cls idx μ'.1 ∈ lw_good)
    (hroom : d + 1 ≤ R.frames ∧ 8 + (μ'.2.2.1 + 11) + 40 * d ≤ R.locals) (hcs : cl + mc ≤ R.cells ∧ sl + ms ≤ R.slots) (hst : (st.map fun v => v.category).sum ≤ 8)
    (kk : ∀ r n' sh' I', Q' r n' sh' I' → Xm ζ R μ (pc + 3) lv (r.toList ++ st) (cl + mc) (sl + ms) n' sh' I' Q) : Xm ζ R μ pc lv stk cl sl n sh I Q := by
  intro Γ p l e s m args below meth c Z H locs ls C D
  subst hstk
  have hKs := C.2.2.2.2.2.2.1
  have hts := C.2.2.2.2.1
  have hCB := sm_CB (R := R) (mc := mc) (ms := ms) hts hm hl hroom
  rw [hret] at hCB
  refine sm_call (rest := st.map (sm_V Γ.2.1)) (va_runI (As := as.map (sm_V Γ.2.1)) (rest := st.map (sm_V Γ.2.1)) (b := Γ.2.1 a) ⟨C.1, C.2.1, C.2.2.1, C.2.2.2.1, hts⟩ (hE ζ l Γ) ⟨hCB, hnm, hts _ hin⟩ ⟨sm_Pc.blind, fun U hU hW => ⟨rfl, by rw [hU]; exact D.2.1, hKs.pass hW (by rw [hU]; exact D.1)⟩⟩ rfl (List.length_map ..) D.2.2.1 ?_ ?_ hd hcs) D.1 (fun r n' sh' I' H1 locs1 hq hH1 hS1 => ?_)
  · simp [sm_V]
  · show 2 * 0 + _ ≤ 8
    rw [sm_catsum]; omega
  · have h := kk r n' sh' I' hq Γ p l e s m args below meth c Z H1 locs1 ls C ⟨hS1, hH1, D.2.2⟩
    cases r <;> exact h
/-- a nest mate's private constructor -/
theorem x_callIN {idx d mc ms a : Nat} {host : String} {μ' : sm_Mu} {as stk : List Value} {Q' : sm_Qt} (hd : decode μ.2.1 pc = .ok (.invokespecial idx, 3)) (hE : Em d mc ms μ' (.ref a :: as) n sh I Q') (hstk : stk = as.reverse ++ .ref a :: st) (hret : μ'.2.2.2 = none) (hnm : μ'.1.name = "<init>") (hm : sm_Me μ' as.length) (hin : Cond.instanceMethod μ'.1 ∈ lw_good) (hl : ∀ U : State, sm_N U → va_Nw (.methodLinkNest μ.1.cls idx μ'.1 host) U)
    (hroom : d + 1 ≤ R.frames ∧ 8 + (μ'.2.2.1 + 11) + 40 * d ≤ R.locals) (hcs : cl + mc ≤ R.cells ∧ sl + ms ≤ R.slots) (hst : (st.map fun v => v.category).sum ≤ 8)
    (kk : ∀ r n' sh' I', Q' r n' sh' I' → Xm ζ R μ (pc + 3) lv (r.toList ++ st) (cl + mc) (sl + ms) n' sh' I' Q) : Xm ζ R μ pc lv stk cl sl n sh I Q := by
  intro Γ p l e s m args below meth c Z H locs ls C D
  subst hstk
  have hKs := C.2.2.2.2.2.2.1
  have hts := C.2.2.2.2.1
  have hCN : va_CN R s args μ.1.cls idx μ'.1 host μ'.2.1 μ'.2.2.1 none (sm_ws μ') (sm_rm d mc ms) mc ms as.length := by
    obtain ⟨h1, h2, h3, h4⟩ := hm
    rw [← hret]
    refine ⟨⟨rfl, rfl, hroom.1, hroom.2, sm_good_pay hts h1, List.mem_cons_self⟩, hts _ h1, hts _ h2, h3, fun sig h => ?_, va_Nw.use rfl (hl s hKs.2.2.1)⟩
    rw [h] at h4
    exact (Option.some.inj h4).symm
  refine sm_call (rest := st.map (sm_V Γ.2.1)) (va_runIN (As := as.map (sm_V Γ.2.1)) (rest := st.map (sm_V Γ.2.1)) (b := Γ.2.1 a) ⟨C.1, C.2.1, C.2.2.1, C.2.2.2.1, hts⟩ (hE ζ l Γ) ⟨hCN, hnm, hts _ hin⟩ ⟨sm_Pc.blind, fun U hU hW => ⟨rfl, by rw [hU]; exact D.2.1, hKs.pass hW (by rw [hU]; exact D.1)⟩⟩ rfl (List.length_map ..) D.2.2.1 ?_ ?_ hd hcs) D.1 (fun r n' sh' I' H1 locs1 hq hH1 hS1 => ?_)
  · simp [sm_V]
  · show 2 * 0 + _ ≤ 8
    rw [sm_catsum]; omega
  · have h := kk r n' sh' I' hq Γ p l e s m args below meth c Z H1 locs1 ls C ⟨hS1, hH1, D.2.2⟩
    cases r <;> exact h
/-! ===== the law's script ===== -/
theorem x_sld {i : Int32} (hd : decode μ.2.1 pc = .ok (.iaload, 1)) (hin : vp_in i ζ.1) (kk : Xm ζ R μ (pc + 1) lv (.int (ζ.2 i.toNatClampNeg) :: st) cl sl n sh I Q) : Xm ζ R μ pc lv (.int i :: .ref 1000000 :: st) cl sl n sh I Q := by
  intro Γ p l e s m args below meth c Z H locs ls C D
  obtain ⟨-, -, -, ⟨-, -, -, -, -, h6, h7⟩, h5⟩ := C.2.2.2.2.2.2.1
  exact va_sld C.1 C.2.1 h6 (Nat.lt_of_lt_of_le h7 h5) (Nat.not_le.mpr h7) D.1 hin hd (kk Γ p l e s m args below meth c Z H locs ls C D)
theorem x_slen (hd : decode μ.2.1 pc = .ok (.arraylength, 1)) (kk : Xm ζ R μ (pc + 1) lv (.int (Int32.ofNat ζ.1) :: st) cl sl n sh I Q) : Xm ζ R μ pc lv (.ref 1000000 :: st) cl sl n sh I Q := by
  intro Γ p l e s m args below meth c Z H locs ls C D
  obtain ⟨-, -, -, ⟨-, -, -, -, -, h6, h7⟩, h5⟩ := C.2.2.2.2.2.2.1
  exact va_slen C.1 C.2.1 h6 (Nat.lt_of_lt_of_le h7 h5) (Nat.not_le.mpr h7) D.1 hd (kk Γ p l e s m args below meth c Z H locs ls C D)
/-- a weaker end -/
theorem Xm.mono {Q' : sm_Qt} (h : ∀ r n sh I, Q' r n sh I → Q r n sh I) (k : Xm ζ R μ pc lv st cl sl n sh I Q') : Xm ζ R μ pc lv st cl sl n sh I Q := by
  intro Γ p l e s m args below meth c Z H locs ls C D
  obtain ⟨c1, c2, c3, c4, c5, c6, c7, c8⟩ := C
  exact k Γ p l e s m args below meth c Z H locs ls ⟨c1, c2, c3, c4, c5, c6, c7, fun r n sh I H locs cl sl pc ls z1 z2 z3 => c8 r n sh I H locs cl sl pc ls z1 z2 (h r n sh I z3)⟩ D
end SMX
/-! ===== a contract out of a walk ===== -/
theorem sm_L_entry {ad : Nat → Nat} {as : List Value} {nL : Nat} (hcat : ∀ v ∈ as, v.category = 1) (hlen : as.length ≤ nL) : sm_L ad ((((as.map (sm_V ad)).map Slot.val) ++ List.replicate (nL - (as.map (sm_V ad)).length) Slot.unset).toArray) nL (as.map some ++ List.replicate (nL - as.length) none) := by
  have hget : ∀ (i : Nat) (z : Slot), ((((as.map (sm_V ad)).map Slot.val) ++ List.replicate (nL - (as.map (sm_V ad)).length) Slot.unset).toArray)[i]? = some z → z = .unset ∨ ∃ v, as[i]? = some v ∧ z = .val (sm_V ad v) := by
    intro i z h
    rw [List.getElem?_toArray] at h
    by_cases hi : i < as.length
    · rw [List.getElem?_append_left (by simp [hi]), List.getElem?_map, List.getElem?_map] at h
      cases hv : as[i]? with
      | none => rw [hv] at h; cases h
      | some v => rw [hv] at h; cases h; exact Or.inr ⟨v, rfl, rfl⟩
    · rw [List.getElem?_append_right (by simp; omega), List.getElem?_replicate] at h
      split at h
      · cases h; exact Or.inl rfl
      · cases h
  refine ⟨by simp; omega, ⟨fun i v h h2 => ?_, fun i h => ?_⟩, fun i v h => ?_⟩
  · rcases hget i _ h with h3 | ⟨w, h3, h4⟩
    · cases h3
    · cases h4
      rw [sm_V_cat, hcat w (List.mem_of_getElem? h3)] at h2
      cases h2
  · rcases hget i _ h with h3 | ⟨w, h3, h4⟩
    · cases h3
    · cases h4
  · by_cases hi : i < as.length
    · rw [List.getElem?_append_left (by simp [hi]), List.getElem?_map] at h
      cases hv : as[i]? with
      | none => rw [hv] at h; cases h
      | some w =>
        rw [hv] at h
        cases h
        refine ⟨hcat _ (List.mem_of_getElem? hv), ?_⟩
        rw [List.getElem?_toArray, List.getElem?_append_left (by simp [hi]), List.getElem?_map, List.getElem?_map, hv]
        rfl
    · rw [List.getElem?_append_right (by simp; omega), List.getElem?_replicate] at h
      split at h <;> cases h
theorem Em.of {d mc ms : Nat} {μ : sm_Mu} {as : List Value} {n : Nat} {sh : Nat → sm_S} {I : sm_I} {Q : sm_Qt} (hy : plainName μ.1.cls = true) (hcat : ∀ v ∈ as, v.category = 1) (hlen : as.length ≤ μ.2.2.1) (hb : ∀ ζ, Xm ζ (sm_rm d mc ms) μ 0 (as.map some ++ List.replicate (μ.2.2.1 - as.length) none) [] 0 0 n sh I Q) : Em d mc ms μ as n sh I Q := by
  intro ζ l Γ
  refine Met.ofW (cc := μ.2.1) (maxL := μ.2.2.1) (ret := μ.2.2.2) hy rfl ?_
  intro p e s m args below meth c s₁ B hml hv
  obtain ⟨rfl, hH, hK⟩ := hv
  have hts := atoms_spec (ws := sm_ws μ) B.pre
  have hown : s.vm.findClass μ.1.cls = some m.cls := findClass_of_methodNamed B.named
  have hr := B.returns
  have hlocks := B.notSynchronized
  rw [entry_eq m (as.map (sm_V Γ.2.1)) (fun v hv => by obtain ⟨w, h1, rfl⟩ := List.mem_map.mp hv; rw [sm_V_cat]; exact hcat w h1) μ.2.2.1]
  refine hb ζ Γ p l e s m _ below meth c _ s.heap [] _ ⟨B.exec, B.bytes, hml, hown, fun w hw => hts w (List.mem_cons_of_mem _ hw), (name_of_methodNamed B.named B.method).1, hK, ?_⟩ ⟨va_S.rf, hH, sm_L_entry hcat hlen⟩
  intro r n' sh' I' H locs cl sl pc ls hc hs hq hH' hS hR
  refine W.widen (k := mc) (n := ms) hc hs ?_
  cases r with
  | none => exact W.vret B.exec B.bytes (hr.trans hR.1) (fun t ht hW => ⟨⟨none, n', sh', I', rfl, hq, by rw [ht]; exact hH'⟩, hS.F ht⟩) hS.2.2 hR.2 hlocks
  | some v =>
    cases v with
    | int x =>
      obtain ⟨⟨ty, h1, h2⟩, h3⟩ := hR
      exact W.zret B.exec B.bytes (hr.trans h1) h2 (fun t ht hW => ⟨⟨some (.int x), n', sh', I', rfl, hq, by rw [ht]; exact hH'⟩, hS.F ht⟩) hS.2.2 h3 hlocks
    | float x => exact W.fret B.exec B.bytes (hr.trans hR.1) (fun t ht hW => ⟨⟨some (.float x), n', sh', I', rfl, hq, by rw [ht]; exact hH'⟩, hS.F ht⟩) hS.2.2 hR.2 hlocks
    | ref x =>
      obtain ⟨⟨t, h1⟩, h3⟩ := hR
      exact W.aret B.exec B.bytes (hr.trans h1) (Or.inl ⟨t, rfl⟩) (Or.inr ⟨_, rfl⟩) (fun t ht hW => ⟨⟨some (.ref x), n', sh', I', rfl, hq, by rw [ht]; exact hH'⟩, hS.F ht⟩) hS.2.2 h3 hlocks
    | _ => exact hR.elim
end
section
theorem clX0 : sm_Cl 0 RX0 TX0 6 tyX0 := ⟨rfl, rfl, (by decide +kernel), tyX0_ok, nmX0⟩
theorem clX1 : sm_Cl 1 RX1 TX1 2 tyX1 := ⟨rfl, rfl, (by decide +kernel), tyX1_ok, nmX1⟩
theorem clX2 : sm_Cl 2 RX2 TX2 6 tyX2 := ⟨rfl, rfl, (by decide +kernel), tyX2_ok, nmX2⟩
theorem clX3 : sm_Cl 3 RX3 TX3 3 tyX3 := ⟨rfl, rfl, (by decide +kernel), tyX3_ok, nmX3⟩
theorem clX4 : sm_Cl 4 RX4 TX4 4 tyX4 := ⟨rfl, rfl, (by decide +kernel), tyX4_ok, nmX4⟩
theorem clX5 : sm_Cl 5 RX5 TX5 5 tyX5 := ⟨rfl, rfl, (by decide +kernel), tyX5_ok, nmX5⟩
theorem clX6 : sm_Cl 6 RX6 TX6 3 tyX6 := ⟨rfl, rfl, (by decide +kernel), tyX6_ok, nmX6⟩
theorem clX7 : sm_Cl 7 RX7 TX7 5 tyX7 := ⟨rfl, rfl, (by decide +kernel), tyX7_ok, nmX7⟩
theorem clX8 : sm_Cl 8 RX8 TX8 11 tyX8 := ⟨rfl, rfl, (by decide +kernel), tyX8_ok, nmX8⟩
theorem clX9 : sm_Cl 9 RX9 TX9 21 tyX9 := ⟨rfl, rfl, (by decide +kernel), tyX9_ok, nmX9⟩
abbrev mX8_init : sm_Mu := (yX8_init, cX8_init, 2, none)
theorem meX8_init : sm_Me mX8_init 0 := ⟨lw_good_in (List.mem_append_right _ (List.mem_of_getElem? (i := 21) (by decide +kernel))) (by decide +kernel), lw_good_in (List.mem_append_right _ (List.mem_of_getElem? (i := 1) (by decide +kernel))) (by decide +kernel), by decide +kernel, by decide +kernel⟩
abbrev mX7_init : sm_Mu := (yX7_init, cX7_init, 1, none)
theorem meX7_init : sm_Me mX7_init 0 := ⟨lw_good_in (List.mem_append_right _ (List.mem_of_getElem? (i := 29) (by decide +kernel))) (by decide +kernel), lw_good_in (List.mem_append_right _ (List.mem_of_getElem? (i := 2) (by decide +kernel))) (by decide +kernel), by decide +kernel, by decide +kernel⟩
abbrev mX4_init : sm_Mu := (yX4_init, cX4_init, 2, none)
theorem meX4_init : sm_Me mX4_init 1 := ⟨lw_good_in (List.mem_append_right _ (List.mem_of_getElem? (i := 56) (by decide +kernel))) (by decide +kernel), lw_good_in (List.mem_append_right _ (List.mem_of_getElem? (i := 3) (by decide +kernel))) (by decide +kernel), by decide +kernel, by decide +kernel⟩
abbrev mX1_init : sm_Mu := (yX1_init, cX1_init, 2, none)
theorem meX1_init : sm_Me mX1_init 0 := ⟨lw_good_in (List.mem_append_right _ (List.mem_of_getElem? (i := 62) (by decide +kernel))) (by decide +kernel), lw_good_in (List.mem_append_right _ (List.mem_of_getElem? (i := 4) (by decide +kernel))) (by decide +kernel), by decide +kernel, by decide +kernel⟩
abbrev mX0_init : sm_Mu := (yX0_init, cX0_init, 1, none)
theorem meX0_init : sm_Me mX0_init 0 := ⟨lw_good_in (List.mem_append_right _ (List.mem_of_getElem? (i := 69) (by decide +kernel))) (by decide +kernel), lw_good_in (List.mem_append_right _ (List.mem_of_getElem? (i := 5) (by decide +kernel))) (by decide +kernel), by decide +kernel, by decide +kernel⟩
abbrev mX3_init : sm_Mu := (yX3_init, cX3_init, 2, none)
theorem meX3_init : sm_Me mX3_init 0 := ⟨lw_good_in (List.mem_append_right _ (List.mem_of_getElem? (i := 134) (by decide +kernel))) (by decide +kernel), lw_good_in (List.mem_append_right _ (List.mem_of_getElem? (i := 6) (by decide +kernel))) (by decide +kernel), by decide +kernel, by decide +kernel⟩
abbrev mX6_init : sm_Mu := (yX6_init, cX6_init, 1, none)
theorem meX6_init : sm_Me mX6_init 0 := ⟨lw_good_in (List.mem_append_right _ (List.mem_of_getElem? (i := 154) (by decide +kernel))) (by decide +kernel), lw_good_in (List.mem_append_right _ (List.mem_of_getElem? (i := 7) (by decide +kernel))) (by decide +kernel), by decide +kernel, by decide +kernel⟩
abbrev mX2_init : sm_Mu := (yX2_init, cX2_init, 2, none)
theorem meX2_init : sm_Me mX2_init 1 := ⟨lw_good_in (List.mem_append_right _ (List.mem_of_getElem? (i := 173) (by decide +kernel))) (by decide +kernel), lw_good_in (List.mem_append_right _ (List.mem_of_getElem? (i := 8) (by decide +kernel))) (by decide +kernel), by decide +kernel, by decide +kernel⟩
abbrev mX5_init : sm_Mu := (yX5_init, cX5_init, 1, none)
theorem meX5_init : sm_Me mX5_init 0 := ⟨lw_good_in (List.mem_append_right _ (List.mem_of_getElem? (i := 198) (by decide +kernel))) (by decide +kernel), lw_good_in (List.mem_append_right _ (List.mem_of_getElem? (i := 9) (by decide +kernel))) (by decide +kernel), by decide +kernel, by decide +kernel⟩
abbrev mX8_type : sm_Mu := (yX8_type, cX8_type, 2, (some .int))
theorem meX8_type : sm_Me mX8_type 1 := ⟨lw_good_in (List.mem_append_right _ (List.mem_of_getElem? (i := 258) (by decide +kernel))) (by decide +kernel), lw_good_in (List.mem_append_right _ (List.mem_of_getElem? (i := 1) (by decide +kernel))) (by decide +kernel), by decide +kernel, by decide +kernel⟩
abbrev mX7_add : sm_Mu := (yX7_add, cX7_add, 2, (some .boolean))
theorem meX7_add : sm_Me mX7_add 1 := ⟨lw_good_in (List.mem_append_right _ (List.mem_of_getElem? (i := 262) (by decide +kernel))) (by decide +kernel), lw_good_in (List.mem_append_right _ (List.mem_of_getElem? (i := 2) (by decide +kernel))) (by decide +kernel), by decide +kernel, by decide +kernel⟩
abbrev mX8_clear : sm_Mu := (yX8_clear, cX8_clear, 2, (some .int))
theorem meX8_clear : sm_Me mX8_clear 0 := ⟨lw_good_in (List.mem_append_right _ (List.mem_of_getElem? (i := 266) (by decide +kernel))) (by decide +kernel), lw_good_in (List.mem_append_right _ (List.mem_of_getElem? (i := 1) (by decide +kernel))) (by decide +kernel), by decide +kernel, by decide +kernel⟩
abbrev mX8_tells : sm_Mu := (yX8_tells, cX8_tells, 1, (some .int))
theorem meX8_tells : sm_Me mX8_tells 0 := ⟨lw_good_in (List.mem_append_right _ (List.mem_of_getElem? (i := 270) (by decide +kernel))) (by decide +kernel), lw_good_in (List.mem_append_right _ (List.mem_of_getElem? (i := 1) (by decide +kernel))) (by decide +kernel), by decide +kernel, by decide +kernel⟩
abbrev mX4_readAll : sm_Mu := (yX4_readAll, cX4_readAll, 1, (some .boolean))
theorem meX4_readAll : sm_Me mX4_readAll 0 := ⟨lw_good_in (List.mem_append_right _ (List.mem_of_getElem? (i := 274) (by decide +kernel))) (by decide +kernel), lw_good_in (List.mem_append_right _ (List.mem_of_getElem? (i := 3) (by decide +kernel))) (by decide +kernel), by decide +kernel, by decide +kernel⟩
abbrev mX7_split : sm_Mu := (yX7_split, cX7_split, 3, none)
theorem meX7_split : sm_Me mX7_split 0 := ⟨lw_good_in (List.mem_append_right _ (List.mem_of_getElem? (i := 278) (by decide +kernel))) (by decide +kernel), lw_good_in (List.mem_append_right _ (List.mem_of_getElem? (i := 2) (by decide +kernel))) (by decide +kernel), by decide +kernel, by decide +kernel⟩
abbrev mX7_goesOn : sm_Mu := (yX7_goesOn, cX7_goesOn, 2, (some .boolean))
theorem meX7_goesOn : sm_Me mX7_goesOn 1 := ⟨lw_good_in (List.mem_append_right _ (List.mem_of_getElem? (i := 282) (by decide +kernel))) (by decide +kernel), lw_good_in (List.mem_append_right _ (List.mem_of_getElem? (i := 2) (by decide +kernel))) (by decide +kernel), by decide +kernel, by decide +kernel⟩
abbrev mX7_isSmallLetter : sm_Mu := (yX7_isSmallLetter, cX7_isSmallLetter, 1, (some .boolean))
theorem meX7_isSmallLetter : sm_Me mX7_isSmallLetter 1 := ⟨lw_good_in (List.mem_append_right _ (List.mem_of_getElem? (i := 285) (by decide +kernel))) (by decide +kernel), lw_good_in (List.mem_append_right _ (List.mem_of_getElem? (i := 2) (by decide +kernel))) (by decide +kernel), by decide +kernel, by decide +kernel⟩
abbrev mX7_isFigure : sm_Mu := (yX7_isFigure, cX7_isFigure, 1, (some .boolean))
theorem meX7_isFigure : sm_Me mX7_isFigure 1 := ⟨lw_good_in (List.mem_append_right _ (List.mem_of_getElem? (i := 288) (by decide +kernel))) (by decide +kernel), lw_good_in (List.mem_append_right _ (List.mem_of_getElem? (i := 2) (by decide +kernel))) (by decide +kernel), by decide +kernel, by decide +kernel⟩
abbrev mX7_putKind : sm_Mu := (yX7_putKind, cX7_putKind, 4, none)
theorem meX7_putKind : sm_Me mX7_putKind 2 := ⟨lw_good_in (List.mem_append_right _ (List.mem_of_getElem? (i := 292) (by decide +kernel))) (by decide +kernel), lw_good_in (List.mem_append_right _ (List.mem_of_getElem? (i := 2) (by decide +kernel))) (by decide +kernel), by decide +kernel, by decide +kernel⟩
abbrev mX7_kindOfWord : sm_Mu := (yX7_kindOfWord, cX7_kindOfWord, 3, (some .int))
theorem meX7_kindOfWord : sm_Me mX7_kindOfWord 2 := ⟨lw_good_in (List.mem_append_right _ (List.mem_of_getElem? (i := 296) (by decide +kernel))) (by decide +kernel), lw_good_in (List.mem_append_right _ (List.mem_of_getElem? (i := 2) (by decide +kernel))) (by decide +kernel), by decide +kernel, by decide +kernel⟩
abbrev mX7_isWord : sm_Mu := (yX7_isWord, cX7_isWord, 5, (some .boolean))
theorem meX7_isWord : sm_Me mX7_isWord 3 := ⟨lw_good_in (List.mem_append_right _ (List.mem_of_getElem? (i := 301) (by decide +kernel))) (by decide +kernel), lw_good_in (List.mem_append_right _ (List.mem_of_getElem? (i := 2) (by decide +kernel))) (by decide +kernel), by decide +kernel, by decide +kernel⟩
abbrev mJ0_length_8abf5 : sm_Mu := (yJ0_length_8abf5, cJ0_length_8abf5, 1, (some .int))
theorem meJ0_length_8abf5 : sm_Me mJ0_length_8abf5 0 := ⟨lw_good_in (List.mem_append_right _ (List.mem_of_getElem? (i := 305) (by decide +kernel))) (by decide +kernel), lw_good_in (List.mem_append_right _ (List.mem_of_getElem? (i := 11) (by decide +kernel))) (by decide +kernel), by decide +kernel, by decide +kernel⟩
abbrev mJ0_coder_7d493 : sm_Mu := (yJ0_coder_7d493, cJ0_coder_7d493, 1, (some .byte))
theorem meJ0_coder_7d493 : sm_Me mJ0_coder_7d493 0 := ⟨lw_good_in (List.mem_append_right _ (List.mem_of_getElem? (i := 309) (by decide +kernel))) (by decide +kernel), lw_good_in (List.mem_append_right _ (List.mem_of_getElem? (i := 11) (by decide +kernel))) (by decide +kernel), by decide +kernel, by decide +kernel⟩
abbrev mJ0_charAt_5068e : sm_Mu := (yJ0_charAt_5068e, cJ0_charAt_5068e, 2, (some .char))
theorem meJ0_charAt_5068e : sm_Me mJ0_charAt_5068e 1 := ⟨lw_good_in (List.mem_append_right _ (List.mem_of_getElem? (i := 315) (by decide +kernel))) (by decide +kernel), lw_good_in (List.mem_append_right _ (List.mem_of_getElem? (i := 11) (by decide +kernel))) (by decide +kernel), by decide +kernel, by decide +kernel⟩
abbrev mJ0_isLatin1_aae02 : sm_Mu := (yJ0_isLatin1_aae02, cJ0_isLatin1_aae02, 1, (some .boolean))
theorem meJ0_isLatin1_aae02 : sm_Me mJ0_isLatin1_aae02 0 := ⟨lw_good_in (List.mem_append_right _ (List.mem_of_getElem? (i := 319) (by decide +kernel))) (by decide +kernel), lw_good_in (List.mem_append_right _ (List.mem_of_getElem? (i := 11) (by decide +kernel))) (by decide +kernel), by decide +kernel, by decide +kernel⟩
abbrev mJ1_charAt_3b067 : sm_Mu := (yJ1_charAt_3b067, cJ1_charAt_3b067, 2, (some .char))
theorem meJ1_charAt_3b067 : sm_Me mJ1_charAt_3b067 2 := ⟨lw_good_in (List.mem_append_right _ (List.mem_of_getElem? (i := 322) (by decide +kernel))) (by decide +kernel), lw_good_in (List.mem_append_right _ (List.mem_of_getElem? (i := 12) (by decide +kernel))) (by decide +kernel), by decide +kernel, by decide +kernel⟩
abbrev mJ0_checkIndex_df160 : sm_Mu := (yJ0_checkIndex_df160, cJ0_checkIndex_df160, 2, none)
theorem meJ0_checkIndex_df160 : sm_Me mJ0_checkIndex_df160 2 := ⟨lw_good_in (List.mem_append_right _ (List.mem_of_getElem? (i := 325) (by decide +kernel))) (by decide +kernel), lw_good_in (List.mem_append_right _ (List.mem_of_getElem? (i := 11) (by decide +kernel))) (by decide +kernel), by decide +kernel, by decide +kernel⟩
abbrev mJ3_checkIndex_8e157 : sm_Mu := (yJ3_checkIndex_8e157, cJ3_checkIndex_8e157, 3, (some .int))
theorem meJ3_checkIndex_8e157 : sm_Me mJ3_checkIndex_8e157 3 := ⟨lw_good_in (List.mem_append_right _ (List.mem_of_getElem? (i := 330) (by decide +kernel))) (by decide +kernel), lw_good_in (List.mem_append_right _ (List.mem_of_getElem? (i := 13) (by decide +kernel))) (by decide +kernel), by decide +kernel, by decide +kernel⟩
abbrev mJ2_charAt_3b067 : sm_Mu := (yJ2_charAt_3b067, cJ2_charAt_3b067, 2, (some .char))
theorem meJ2_charAt_3b067 : sm_Me mJ2_charAt_3b067 2 := ⟨lw_good_in (List.mem_append_right _ (List.mem_of_getElem? (i := 333) (by decide +kernel))) (by decide +kernel), lw_good_in (List.mem_append_right _ (List.mem_of_getElem? (i := 14) (by decide +kernel))) (by decide +kernel), by decide +kernel, by decide +kernel⟩
abbrev mJ2_checkIndex_2214a : sm_Mu := (yJ2_checkIndex_2214a, cJ2_checkIndex_2214a, 2, none)
theorem meJ2_checkIndex_2214a : sm_Me mJ2_checkIndex_2214a 2 := ⟨lw_good_in (List.mem_append_right _ (List.mem_of_getElem? (i := 336) (by decide +kernel))) (by decide +kernel), lw_good_in (List.mem_append_right _ (List.mem_of_getElem? (i := 14) (by decide +kernel))) (by decide +kernel), by decide +kernel, by decide +kernel⟩
abbrev mJ2_length_9d52b : sm_Mu := (yJ2_length_9d52b, cJ2_length_9d52b, 1, (some .int))
theorem meJ2_length_9d52b : sm_Me mJ2_length_9d52b 1 := ⟨lw_good_in (List.mem_append_right _ (List.mem_of_getElem? (i := 339) (by decide +kernel))) (by decide +kernel), lw_good_in (List.mem_append_right _ (List.mem_of_getElem? (i := 14) (by decide +kernel))) (by decide +kernel), by decide +kernel, by decide +kernel⟩
abbrev mJ2_getChar_3b067 : sm_Mu := (yJ2_getChar_3b067, cJ2_getChar_3b067, 2, (some .char))
theorem meJ2_getChar_3b067 : sm_Me mJ2_getChar_3b067 2 := ⟨lw_good_in (List.mem_append_right _ (List.mem_of_getElem? (i := 343) (by decide +kernel))) (by decide +kernel), lw_good_in (List.mem_append_right _ (List.mem_of_getElem? (i := 14) (by decide +kernel))) (by decide +kernel), by decide +kernel, by decide +kernel⟩
abbrev mX7_kindOfNumber : sm_Mu := (yX7_kindOfNumber, cX7_kindOfNumber, 4, (some .int))
theorem meX7_kindOfNumber : sm_Me mX7_kindOfNumber 2 := ⟨lw_good_in (List.mem_append_right _ (List.mem_of_getElem? (i := 354) (by decide +kernel))) (by decide +kernel), lw_good_in (List.mem_append_right _ (List.mem_of_getElem? (i := 2) (by decide +kernel))) (by decide +kernel), by decide +kernel, by decide +kernel⟩
abbrev mX7_valueOf : sm_Mu := (yX7_valueOf, cX7_valueOf, 5, (some .int))
theorem meX7_valueOf : sm_Me mX7_valueOf 2 := ⟨lw_good_in (List.mem_append_right _ (List.mem_of_getElem? (i := 358) (by decide +kernel))) (by decide +kernel), lw_good_in (List.mem_append_right _ (List.mem_of_getElem? (i := 2) (by decide +kernel))) (by decide +kernel), by decide +kernel, by decide +kernel⟩
abbrev mX1_empty : sm_Mu := (yX1_empty, cX1_empty, 1, none)
theorem meX1_empty : sm_Me mX1_empty 0 := ⟨lw_good_in (List.mem_append_right _ (List.mem_of_getElem? (i := 362) (by decide +kernel))) (by decide +kernel), lw_good_in (List.mem_append_right _ (List.mem_of_getElem? (i := 4) (by decide +kernel))) (by decide +kernel), by decide +kernel, by decide +kernel⟩
abbrev mX4_readItem : sm_Mu := (yX4_readItem, cX4_readItem, 2, (some .boolean))
theorem meX4_readItem : sm_Me mX4_readItem 0 := ⟨lw_good_in (List.mem_append_right _ (List.mem_of_getElem? (i := 366) (by decide +kernel))) (by decide +kernel), lw_good_in (List.mem_append_right _ (List.mem_of_getElem? (i := 3) (by decide +kernel))) (by decide +kernel), by decide +kernel, by decide +kernel⟩
abbrev mX4_readCask : sm_Mu := (yX4_readCask, cX4_readCask, 4, (some .boolean))
theorem meX4_readCask : sm_Me mX4_readCask 0 := ⟨lw_good_in (List.mem_append_right _ (List.mem_of_getElem? (i := 370) (by decide +kernel))) (by decide +kernel), lw_good_in (List.mem_append_right _ (List.mem_of_getElem? (i := 3) (by decide +kernel))) (by decide +kernel), by decide +kernel, by decide +kernel⟩
abbrev mX4_readNumber : sm_Mu := (yX4_readNumber, cX4_readNumber, 4, (some .boolean))
theorem meX4_readNumber : sm_Me mX4_readNumber 2 := ⟨lw_good_in (List.mem_append_right _ (List.mem_of_getElem? (i := 374) (by decide +kernel))) (by decide +kernel), lw_good_in (List.mem_append_right _ (List.mem_of_getElem? (i := 3) (by decide +kernel))) (by decide +kernel), by decide +kernel, by decide +kernel⟩
abbrev mX4_step : sm_Mu := (yX4_step, cX4_step, 1, none)
theorem meX4_step : sm_Me mX4_step 0 := ⟨lw_good_in (List.mem_append_right _ (List.mem_of_getElem? (i := 378) (by decide +kernel))) (by decide +kernel), lw_good_in (List.mem_append_right _ (List.mem_of_getElem? (i := 3) (by decide +kernel))) (by decide +kernel), by decide +kernel, by decide +kernel⟩
abbrev mX4_readItemEnd : sm_Mu := (yX4_readItemEnd, cX4_readItemEnd, 1, (some .boolean))
theorem meX4_readItemEnd : sm_Me mX4_readItemEnd 0 := ⟨lw_good_in (List.mem_append_right _ (List.mem_of_getElem? (i := 382) (by decide +kernel))) (by decide +kernel), lw_good_in (List.mem_append_right _ (List.mem_of_getElem? (i := 3) (by decide +kernel))) (by decide +kernel), by decide +kernel, by decide +kernel⟩
abbrev mX1_add : sm_Mu := (yX1_add, cX1_add, 4, (some .boolean))
theorem meX1_add : sm_Me mX1_add 3 := ⟨lw_good_in (List.mem_append_right _ (List.mem_of_getElem? (i := 386) (by decide +kernel))) (by decide +kernel), lw_good_in (List.mem_append_right _ (List.mem_of_getElem? (i := 4) (by decide +kernel))) (by decide +kernel), by decide +kernel, by decide +kernel⟩
abbrev mX0_becomeNew : sm_Mu := (yX0_becomeNew, cX0_becomeNew, 4, none)
theorem meX0_becomeNew : sm_Me mX0_becomeNew 3 := ⟨lw_good_in (List.mem_append_right _ (List.mem_of_getElem? (i := 390) (by decide +kernel))) (by decide +kernel), lw_good_in (List.mem_append_right _ (List.mem_of_getElem? (i := 5) (by decide +kernel))) (by decide +kernel), by decide +kernel, by decide +kernel⟩
abbrev mX4_readStands : sm_Mu := (yX4_readStands, cX4_readStands, 2, (some .boolean))
theorem meX4_readStands : sm_Me mX4_readStands 0 := ⟨lw_good_in (List.mem_append_right _ (List.mem_of_getElem? (i := 394) (by decide +kernel))) (by decide +kernel), lw_good_in (List.mem_append_right _ (List.mem_of_getElem? (i := 3) (by decide +kernel))) (by decide +kernel), by decide +kernel, by decide +kernel⟩
abbrev mX1_has : sm_Mu := (yX1_has, cX1_has, 2, (some .boolean))
theorem meX1_has : sm_Me mX1_has 1 := ⟨lw_good_in (List.mem_append_right _ (List.mem_of_getElem? (i := 398) (by decide +kernel))) (by decide +kernel), lw_good_in (List.mem_append_right _ (List.mem_of_getElem? (i := 4) (by decide +kernel))) (by decide +kernel), by decide +kernel, by decide +kernel⟩
abbrev mX4_faultPlace : sm_Mu := (yX4_faultPlace, cX4_faultPlace, 1, (some .int))
theorem meX4_faultPlace : sm_Me mX4_faultPlace 0 := ⟨lw_good_in (List.mem_append_right _ (List.mem_of_getElem? (i := 402) (by decide +kernel))) (by decide +kernel), lw_good_in (List.mem_append_right _ (List.mem_of_getElem? (i := 3) (by decide +kernel))) (by decide +kernel), by decide +kernel, by decide +kernel⟩
abbrev mX3_remember : sm_Mu := (yX3_remember, cX3_remember, 2, none)
theorem meX3_remember : sm_Me mX3_remember 1 := ⟨lw_good_in (List.mem_append_right _ (List.mem_of_getElem? (i := 406) (by decide +kernel))) (by decide +kernel), lw_good_in (List.mem_append_right _ (List.mem_of_getElem? (i := 6) (by decide +kernel))) (by decide +kernel), by decide +kernel, by decide +kernel⟩
abbrev mX1_copyFrom : sm_Mu := (yX1_copyFrom, cX1_copyFrom, 3, none)
theorem meX1_copyFrom : sm_Me mX1_copyFrom 1 := ⟨lw_good_in (List.mem_append_right _ (List.mem_of_getElem? (i := 410) (by decide +kernel))) (by decide +kernel), lw_good_in (List.mem_append_right _ (List.mem_of_getElem? (i := 4) (by decide +kernel))) (by decide +kernel), by decide +kernel, by decide +kernel⟩
abbrev mX0_copyFrom : sm_Mu := (yX0_copyFrom, cX0_copyFrom, 2, none)
theorem meX0_copyFrom : sm_Me mX0_copyFrom 1 := ⟨lw_good_in (List.mem_append_right _ (List.mem_of_getElem? (i := 414) (by decide +kernel))) (by decide +kernel), lw_good_in (List.mem_append_right _ (List.mem_of_getElem? (i := 5) (by decide +kernel))) (by decide +kernel), by decide +kernel, by decide +kernel⟩
abbrev mJ9_min_7cf53 : sm_Mu := (yJ9_min_7cf53, cJ9_min_7cf53, 2, (some .int))
theorem meJ9_min_7cf53 : sm_Me mJ9_min_7cf53 2 := ⟨lw_good_in (List.mem_append_right _ (List.mem_of_getElem? (i := 417) (by decide +kernel))) (by decide +kernel), lw_good_in (List.mem_append_right _ (List.mem_of_getElem? (i := 15) (by decide +kernel))) (by decide +kernel), by decide +kernel, by decide +kernel⟩
abbrev mX8_fills : sm_Mu := (yX8_fills, cX8_fills, 4, (some .int))
theorem meX8_fills : sm_Me mX8_fills 3 := ⟨lw_good_in (List.mem_append_right _ (List.mem_of_getElem? (i := 423) (by decide +kernel))) (by decide +kernel), lw_good_in (List.mem_append_right _ (List.mem_of_getElem? (i := 1) (by decide +kernel))) (by decide +kernel), by decide +kernel, by decide +kernel⟩
abbrev mX8_roomIn : sm_Mu := (yX8_roomIn, cX8_roomIn, 2, (some .int))
theorem meX8_roomIn : sm_Me mX8_roomIn 1 := ⟨lw_good_in (List.mem_append_right _ (List.mem_of_getElem? (i := 428) (by decide +kernel))) (by decide +kernel), lw_good_in (List.mem_append_right _ (List.mem_of_getElem? (i := 1) (by decide +kernel))) (by decide +kernel), by decide +kernel, by decide +kernel⟩
abbrev mX8_levelsOf : sm_Mu := (yX8_levelsOf, cX8_levelsOf, 2, (some (.object "CaskGauge$Levels")))
theorem meX8_levelsOf : sm_Me mX8_levelsOf 1 := ⟨lw_good_in (List.mem_append_right _ (List.mem_of_getElem? (i := 432) (by decide +kernel))) (by decide +kernel), lw_good_in (List.mem_append_right _ (List.mem_of_getElem? (i := 1) (by decide +kernel))) (by decide +kernel), by decide +kernel, by decide +kernel⟩
abbrev mX8_lyingLevelsOf : sm_Mu := (yX8_lyingLevelsOf, cX8_lyingLevelsOf, 2, (some (.object "CaskGauge$Levels")))
theorem meX8_lyingLevelsOf : sm_Me mX8_lyingLevelsOf 1 := ⟨lw_good_in (List.mem_append_right _ (List.mem_of_getElem? (i := 436) (by decide +kernel))) (by decide +kernel), lw_good_in (List.mem_append_right _ (List.mem_of_getElem? (i := 1) (by decide +kernel))) (by decide +kernel), by decide +kernel, by decide +kernel⟩
abbrev mX2_measure : sm_Mu := (yX2_measure, cX2_measure, 5, none)
theorem meX2_measure : sm_Me mX2_measure 1 := ⟨lw_good_in (List.mem_append_right _ (List.mem_of_getElem? (i := 440) (by decide +kernel))) (by decide +kernel), lw_good_in (List.mem_append_right _ (List.mem_of_getElem? (i := 8) (by decide +kernel))) (by decide +kernel), by decide +kernel, by decide +kernel⟩
abbrev mX0_radiusOf : sm_Mu := (yX0_radiusOf, cX0_radiusOf, 4, (some .int))
theorem meX0_radiusOf : sm_Me mX0_radiusOf 1 := ⟨lw_good_in (List.mem_append_right _ (List.mem_of_getElem? (i := 445) (by decide +kernel))) (by decide +kernel), lw_good_in (List.mem_append_right _ (List.mem_of_getElem? (i := 5) (by decide +kernel))) (by decide +kernel), by decide +kernel, by decide +kernel⟩
abbrev mX0_cellsOf : sm_Mu := (yX0_cellsOf, cX0_cellsOf, 6, (some .int))
theorem meX0_cellsOf : sm_Me mX0_cellsOf 2 := ⟨lw_good_in (List.mem_append_right _ (List.mem_of_getElem? (i := 449) (by decide +kernel))) (by decide +kernel), lw_good_in (List.mem_append_right _ (List.mem_of_getElem? (i := 5) (by decide +kernel))) (by decide +kernel), by decide +kernel, by decide +kernel⟩
abbrev mX2_addAhead : sm_Mu := (yX2_addAhead, cX2_addAhead, 3, none)
theorem meX2_addAhead : sm_Me mX2_addAhead 2 := ⟨lw_good_in (List.mem_append_right _ (List.mem_of_getElem? (i := 453) (by decide +kernel))) (by decide +kernel), lw_good_in (List.mem_append_right _ (List.mem_of_getElem? (i := 8) (by decide +kernel))) (by decide +kernel), by decide +kernel, by decide +kernel⟩
abbrev mX2_reach : sm_Mu := (yX2_reach, cX2_reach, 2, (some .boolean))
theorem meX2_reach : sm_Me mX2_reach 1 := ⟨lw_good_in (List.mem_append_right _ (List.mem_of_getElem? (i := 457) (by decide +kernel))) (by decide +kernel), lw_good_in (List.mem_append_right _ (List.mem_of_getElem? (i := 8) (by decide +kernel))) (by decide +kernel), by decide +kernel, by decide +kernel⟩
abbrev mX2_hold : sm_Mu := (yX2_hold, cX2_hold, 1, (some .int))
theorem meX2_hold : sm_Me mX2_hold 0 := ⟨lw_good_in (List.mem_append_right _ (List.mem_of_getElem? (i := 461) (by decide +kernel))) (by decide +kernel), lw_good_in (List.mem_append_right _ (List.mem_of_getElem? (i := 8) (by decide +kernel))) (by decide +kernel), by decide +kernel, by decide +kernel⟩
abbrev mX2_amountAt : sm_Mu := (yX2_amountAt, cX2_amountAt, 2, (some .int))
theorem meX2_amountAt : sm_Me mX2_amountAt 1 := ⟨lw_good_in (List.mem_append_right _ (List.mem_of_getElem? (i := 465) (by decide +kernel))) (by decide +kernel), lw_good_in (List.mem_append_right _ (List.mem_of_getElem? (i := 8) (by decide +kernel))) (by decide +kernel), by decide +kernel, by decide +kernel⟩
abbrev mX0_takeIn : sm_Mu := (yX0_takeIn, cX0_takeIn, 3, none)
theorem meX0_takeIn : sm_Me mX0_takeIn 2 := ⟨lw_good_in (List.mem_append_right _ (List.mem_of_getElem? (i := 469) (by decide +kernel))) (by decide +kernel), lw_good_in (List.mem_append_right _ (List.mem_of_getElem? (i := 5) (by decide +kernel))) (by decide +kernel), by decide +kernel, by decide +kernel⟩
abbrev mX8_draws : sm_Mu := (yX8_draws, cX8_draws, 3, (some .int))
theorem meX8_draws : sm_Me mX8_draws 2 := ⟨lw_good_in (List.mem_append_right _ (List.mem_of_getElem? (i := 473) (by decide +kernel))) (by decide +kernel), lw_good_in (List.mem_append_right _ (List.mem_of_getElem? (i := 1) (by decide +kernel))) (by decide +kernel), by decide +kernel, by decide +kernel⟩
abbrev mX0_giveOut : sm_Mu := (yX0_giveOut, cX0_giveOut, 3, (some .int))
theorem meX0_giveOut : sm_Me mX0_giveOut 1 := ⟨lw_good_in (List.mem_append_right _ (List.mem_of_getElem? (i := 477) (by decide +kernel))) (by decide +kernel), lw_good_in (List.mem_append_right _ (List.mem_of_getElem? (i := 5) (by decide +kernel))) (by decide +kernel), by decide +kernel, by decide +kernel⟩
abbrev mX8_pours : sm_Mu := (yX8_pours, cX8_pours, 5, (some .int))
theorem meX8_pours : sm_Me mX8_pours 3 := ⟨lw_good_in (List.mem_append_right _ (List.mem_of_getElem? (i := 481) (by decide +kernel))) (by decide +kernel), lw_good_in (List.mem_append_right _ (List.mem_of_getElem? (i := 1) (by decide +kernel))) (by decide +kernel), by decide +kernel, by decide +kernel⟩
abbrev mX8_turnsOver : sm_Mu := (yX8_turnsOver, cX8_turnsOver, 2, (some .int))
theorem meX8_turnsOver : sm_Me mX8_turnsOver 1 := ⟨lw_good_in (List.mem_append_right _ (List.mem_of_getElem? (i := 485) (by decide +kernel))) (by decide +kernel), lw_good_in (List.mem_append_right _ (List.mem_of_getElem? (i := 1) (by decide +kernel))) (by decide +kernel), by decide +kernel, by decide +kernel⟩
abbrev mX8_undo : sm_Mu := (yX8_undo, cX8_undo, 1, (some .int))
theorem meX8_undo : sm_Me mX8_undo 0 := ⟨lw_good_in (List.mem_append_right _ (List.mem_of_getElem? (i := 489) (by decide +kernel))) (by decide +kernel), lw_good_in (List.mem_append_right _ (List.mem_of_getElem? (i := 1) (by decide +kernel))) (by decide +kernel), by decide +kernel, by decide +kernel⟩
abbrev mX3_recallInto : sm_Mu := (yX3_recallInto, cX3_recallInto, 2, (some .boolean))
theorem meX3_recallInto : sm_Me mX3_recallInto 1 := ⟨lw_good_in (List.mem_append_right _ (List.mem_of_getElem? (i := 493) (by decide +kernel))) (by decide +kernel), lw_good_in (List.mem_append_right _ (List.mem_of_getElem? (i := 6) (by decide +kernel))) (by decide +kernel), by decide +kernel, by decide +kernel⟩
abbrev mX8_cask : sm_Mu := (yX8_cask, cX8_cask, 4, (some .int))
theorem meX8_cask : sm_Me mX8_cask 2 := ⟨lw_good_in (List.mem_append_right _ (List.mem_of_getElem? (i := 497) (by decide +kernel))) (by decide +kernel), lw_good_in (List.mem_append_right _ (List.mem_of_getElem? (i := 1) (by decide +kernel))) (by decide +kernel), by decide +kernel, by decide +kernel⟩
abbrev mX2_leastDip : sm_Mu := (yX2_leastDip, cX2_leastDip, 2, (some .int))
theorem meX2_leastDip : sm_Me mX2_leastDip 1 := ⟨lw_good_in (List.mem_append_right _ (List.mem_of_getElem? (i := 501) (by decide +kernel))) (by decide +kernel), lw_good_in (List.mem_append_right _ (List.mem_of_getElem? (i := 8) (by decide +kernel))) (by decide +kernel), by decide +kernel, by decide +kernel⟩
abbrev mX2_leastDipFrom : sm_Mu := (yX2_leastDipFrom, cX2_leastDipFrom, 4, (some .int))
theorem meX2_leastDipFrom : sm_Me mX2_leastDipFrom 2 := ⟨lw_good_in (List.mem_append_right _ (List.mem_of_getElem? (i := 505) (by decide +kernel))) (by decide +kernel), lw_good_in (List.mem_append_right _ (List.mem_of_getElem? (i := 8) (by decide +kernel))) (by decide +kernel), by decide +kernel, by decide +kernel⟩
abbrev mJ9_max_7cf53 : sm_Mu := (yJ9_max_7cf53, cJ9_max_7cf53, 2, (some .int))
theorem meJ9_max_7cf53 : sm_Me mJ9_max_7cf53 2 := ⟨lw_good_in (List.mem_append_right _ (List.mem_of_getElem? (i := 508) (by decide +kernel))) (by decide +kernel), lw_good_in (List.mem_append_right _ (List.mem_of_getElem? (i := 15) (by decide +kernel))) (by decide +kernel), by decide +kernel, by decide +kernel⟩
abbrev mX0_strength : sm_Mu := (yX0_strength, cX0_strength, 1, (some .float))
theorem meX0_strength : sm_Me mX0_strength 0 := ⟨lw_good_in (List.mem_append_right _ (List.mem_of_getElem? (i := 512) (by decide +kernel))) (by decide +kernel), lw_good_in (List.mem_append_right _ (List.mem_of_getElem? (i := 5) (by decide +kernel))) (by decide +kernel), by decide +kernel, by decide +kernel⟩
abbrev mX8_inThousandths : sm_Mu := (yX8_inThousandths, cX8_inThousandths, 1, (some .int))
theorem meX8_inThousandths : sm_Me mX8_inThousandths 1 := ⟨lw_good_in (List.mem_append_right _ (List.mem_of_getElem? (i := 515) (by decide +kernel))) (by decide +kernel), lw_good_in (List.mem_append_right _ (List.mem_of_getElem? (i := 1) (by decide +kernel))) (by decide +kernel), by decide +kernel, by decide +kernel⟩
abbrev mX8_slice : sm_Mu := (yX8_slice, cX8_slice, 5, (some .int))
theorem meX8_slice : sm_Me mX8_slice 3 := ⟨lw_good_in (List.mem_append_right _ (List.mem_of_getElem? (i := 520) (by decide +kernel))) (by decide +kernel), lw_good_in (List.mem_append_right _ (List.mem_of_getElem? (i := 1) (by decide +kernel))) (by decide +kernel), by decide +kernel, by decide +kernel⟩
abbrev mX8_under : sm_Mu := (yX8_under, cX8_under, 4, (some .int))
theorem meX8_under : sm_Me mX8_under 2 := ⟨lw_good_in (List.mem_append_right _ (List.mem_of_getElem? (i := 526) (by decide +kernel))) (by decide +kernel), lw_good_in (List.mem_append_right _ (List.mem_of_getElem? (i := 1) (by decide +kernel))) (by decide +kernel), by decide +kernel, by decide +kernel⟩
abbrev mX8_dip : sm_Mu := (yX8_dip, cX8_dip, 4, (some .int))
theorem meX8_dip : sm_Me mX8_dip 2 := ⟨lw_good_in (List.mem_append_right _ (List.mem_of_getElem? (i := 532) (by decide +kernel))) (by decide +kernel), lw_good_in (List.mem_append_right _ (List.mem_of_getElem? (i := 1) (by decide +kernel))) (by decide +kernel), by decide +kernel, by decide +kernel⟩
abbrev mX8_stick : sm_Mu := (yX8_stick, cX8_stick, 4, (some .int))
theorem meX8_stick : sm_Me mX8_stick 3 := ⟨lw_good_in (List.mem_append_right _ (List.mem_of_getElem? (i := 536) (by decide +kernel))) (by decide +kernel), lw_good_in (List.mem_append_right _ (List.mem_of_getElem? (i := 1) (by decide +kernel))) (by decide +kernel), by decide +kernel, by decide +kernel⟩
abbrev mX2_markAt : sm_Mu := (yX2_markAt, cX2_markAt, 5, (some .int))
theorem meX2_markAt : sm_Me mX2_markAt 2 := ⟨lw_good_in (List.mem_append_right _ (List.mem_of_getElem? (i := 540) (by decide +kernel))) (by decide +kernel), lw_good_in (List.mem_append_right _ (List.mem_of_getElem? (i := 8) (by decide +kernel))) (by decide +kernel), by decide +kernel, by decide +kernel⟩
abbrev mX8_known : sm_Mu := (yX8_known, cX8_known, 7, (some .int))
theorem meX8_known : sm_Me mX8_known 3 := ⟨lw_good_in (List.mem_append_right _ (List.mem_of_getElem? (i := 545) (by decide +kernel))) (by decide +kernel), lw_good_in (List.mem_append_right _ (List.mem_of_getElem? (i := 1) (by decide +kernel))) (by decide +kernel), by decide +kernel, by decide +kernel⟩
abbrev mX8_shares : sm_Mu := (yX8_shares, cX8_shares, 5, (some .int))
theorem meX8_shares : sm_Me mX8_shares 3 := ⟨lw_good_in (List.mem_append_right _ (List.mem_of_getElem? (i := 549) (by decide +kernel))) (by decide +kernel), lw_good_in (List.mem_append_right _ (List.mem_of_getElem? (i := 1) (by decide +kernel))) (by decide +kernel), by decide +kernel, by decide +kernel⟩
abbrev mX5_findFairest : sm_Mu := (yX5_findFairest, cX5_findFairest, 7, none)
theorem meX5_findFairest : sm_Me mX5_findFairest 3 := ⟨lw_good_in (List.mem_append_right _ (List.mem_of_getElem? (i := 553) (by decide +kernel))) (by decide +kernel), lw_good_in (List.mem_append_right _ (List.mem_of_getElem? (i := 9) (by decide +kernel))) (by decide +kernel), by decide +kernel, by decide +kernel⟩
abbrev mX5_weigh : sm_Mu := (yX5_weigh, cX5_weigh, 9, none)
theorem meX5_weigh : sm_Me mX5_weigh 4 := ⟨lw_good_in (List.mem_append_right _ (List.mem_of_getElem? (i := 559) (by decide +kernel))) (by decide +kernel), lw_good_in (List.mem_append_right _ (List.mem_of_getElem? (i := 9) (by decide +kernel))) (by decide +kernel), by decide +kernel, by decide +kernel⟩
abbrev mX8_all : sm_Mu := (yX8_all, cX8_all, 2, (some .int))
theorem meX8_all : sm_Me mX8_all 1 := ⟨lw_good_in (List.mem_append_right _ (List.mem_of_getElem? (i := 565) (by decide +kernel))) (by decide +kernel), lw_good_in (List.mem_append_right _ (List.mem_of_getElem? (i := 1) (by decide +kernel))) (by decide +kernel), by decide +kernel, by decide +kernel⟩
abbrev mX1_strongest : sm_Mu := (yX1_strongest, cX1_strongest, 4, (some .int))
theorem meX1_strongest : sm_Me mX1_strongest 0 := ⟨lw_good_in (List.mem_append_right _ (List.mem_of_getElem? (i := 569) (by decide +kernel))) (by decide +kernel), lw_good_in (List.mem_append_right _ (List.mem_of_getElem? (i := 4) (by decide +kernel))) (by decide +kernel), by decide +kernel, by decide +kernel⟩
abbrev mX1_meanStrength : sm_Mu := (yX1_meanStrength, cX1_meanStrength, 4, (some .float))
theorem meX1_meanStrength : sm_Me mX1_meanStrength 0 := ⟨lw_good_in (List.mem_append_right _ (List.mem_of_getElem? (i := 574) (by decide +kernel))) (by decide +kernel), lw_good_in (List.mem_append_right _ (List.mem_of_getElem? (i := 4) (by decide +kernel))) (by decide +kernel), by decide +kernel, by decide +kernel⟩
abbrev mX8_sees : sm_Mu := (yX8_sees, cX8_sees, 3, (some .int))
theorem meX8_sees : sm_Me mX8_sees 2 := ⟨lw_good_in (List.mem_append_right _ (List.mem_of_getElem? (i := 578) (by decide +kernel))) (by decide +kernel), lw_good_in (List.mem_append_right _ (List.mem_of_getElem? (i := 1) (by decide +kernel))) (by decide +kernel), by decide +kernel, by decide +kernel⟩
abbrev mX6_add : sm_Mu := (yX6_add, cX6_add, 3, (some .boolean))
theorem meX6_add : sm_Me mX6_add 2 := ⟨lw_good_in (List.mem_append_right _ (List.mem_of_getElem? (i := 583) (by decide +kernel))) (by decide +kernel), lw_good_in (List.mem_append_right _ (List.mem_of_getElem? (i := 7) (by decide +kernel))) (by decide +kernel), by decide +kernel, by decide +kernel⟩
abbrev mX8_forget : sm_Mu := (yX8_forget, cX8_forget, 2, (some .int))
theorem meX8_forget : sm_Me mX8_forget 0 := ⟨lw_good_in (List.mem_append_right _ (List.mem_of_getElem? (i := 587) (by decide +kernel))) (by decide +kernel), lw_good_in (List.mem_append_right _ (List.mem_of_getElem? (i := 1) (by decide +kernel))) (by decide +kernel), by decide +kernel, by decide +kernel⟩
abbrev mX8_which : sm_Mu := (yX8_which, cX8_which, 3, (some .int))
theorem meX8_which : sm_Me mX8_which 0 := ⟨lw_good_in (List.mem_append_right _ (List.mem_of_getElem? (i := 591) (by decide +kernel))) (by decide +kernel), lw_good_in (List.mem_append_right _ (List.mem_of_getElem? (i := 1) (by decide +kernel))) (by decide +kernel), by decide +kernel, by decide +kernel⟩
abbrev mX6_fits : sm_Mu := (yX6_fits, cX6_fits, 3, (some .boolean))
theorem meX6_fits : sm_Me mX6_fits 1 := ⟨lw_good_in (List.mem_append_right _ (List.mem_of_getElem? (i := 595) (by decide +kernel))) (by decide +kernel), lw_good_in (List.mem_append_right _ (List.mem_of_getElem? (i := 7) (by decide +kernel))) (by decide +kernel), by decide +kernel, by decide +kernel⟩
abbrev mX8_ask : sm_Mu := (yX8_ask, cX8_ask, 6, (some .int))
theorem meX8_ask : sm_Me mX8_ask 0 := ⟨lw_good_in (List.mem_append_right _ (List.mem_of_getElem? (i := 600) (by decide +kernel))) (by decide +kernel), lw_good_in (List.mem_append_right _ (List.mem_of_getElem? (i := 1) (by decide +kernel))) (by decide +kernel), by decide +kernel, by decide +kernel⟩
abbrev mJ6_bitCount_0f7a4 : sm_Mu := (yJ6_bitCount_0f7a4, cJ6_bitCount_0f7a4, 1, (some .int))
theorem meJ6_bitCount_0f7a4 : sm_Me mJ6_bitCount_0f7a4 1 := ⟨lw_good_in (List.mem_append_right _ (List.mem_of_getElem? (i := 604) (by decide +kernel))) (by decide +kernel), lw_good_in (List.mem_append_right _ (List.mem_of_getElem? (i := 16) (by decide +kernel))) (by decide +kernel), by decide +kernel, by decide +kernel⟩
abbrev mX8_startAsking : sm_Mu := (yX8_startAsking, cX8_startAsking, 2, none)
theorem meX8_startAsking : sm_Me mX8_startAsking 0 := ⟨lw_good_in (List.mem_append_right _ (List.mem_of_getElem? (i := 611) (by decide +kernel))) (by decide +kernel), lw_good_in (List.mem_append_right _ (List.mem_of_getElem? (i := 1) (by decide +kernel))) (by decide +kernel), by decide +kernel, by decide +kernel⟩
abbrev mX8_mostAlike : sm_Mu := (yX8_mostAlike, cX8_mostAlike, 6, (some .int))
theorem meX8_mostAlike : sm_Me mX8_mostAlike 1 := ⟨lw_good_in (List.mem_append_right _ (List.mem_of_getElem? (i := 615) (by decide +kernel))) (by decide +kernel), lw_good_in (List.mem_append_right _ (List.mem_of_getElem? (i := 1) (by decide +kernel))) (by decide +kernel), by decide +kernel, by decide +kernel⟩
abbrev mX8_raiseAskedDips : sm_Mu := (yX8_raiseAskedDips, cX8_raiseAskedDips, 5, (some .boolean))
theorem meX8_raiseAskedDips : sm_Me mX8_raiseAskedDips 1 := ⟨lw_good_in (List.mem_append_right _ (List.mem_of_getElem? (i := 620) (by decide +kernel))) (by decide +kernel), lw_good_in (List.mem_append_right _ (List.mem_of_getElem? (i := 1) (by decide +kernel))) (by decide +kernel), by decide +kernel, by decide +kernel⟩
abbrev mX8_keep : sm_Mu := (yX8_keep, cX8_keep, 2, (some .int))
theorem meX8_keep : sm_Me mX8_keep 1 := ⟨lw_good_in (List.mem_append_right _ (List.mem_of_getElem? (i := 625) (by decide +kernel))) (by decide +kernel), lw_good_in (List.mem_append_right _ (List.mem_of_getElem? (i := 1) (by decide +kernel))) (by decide +kernel), by decide +kernel, by decide +kernel⟩
abbrev mX8_back : sm_Mu := (yX8_back, cX8_back, 2, (some .int))
theorem meX8_back : sm_Me mX8_back 1 := ⟨lw_good_in (List.mem_append_right _ (List.mem_of_getElem? (i := 629) (by decide +kernel))) (by decide +kernel), lw_good_in (List.mem_append_right _ (List.mem_of_getElem? (i := 1) (by decide +kernel))) (by decide +kernel), by decide +kernel, by decide +kernel⟩
abbrev mX8_count : sm_Mu := (yX8_count, cX8_count, 2, (some .int))
theorem meX8_count : sm_Me mX8_count 1 := ⟨lw_good_in (List.mem_append_right _ (List.mem_of_getElem? (i := 633) (by decide +kernel))) (by decide +kernel), lw_good_in (List.mem_append_right _ (List.mem_of_getElem? (i := 1) (by decide +kernel))) (by decide +kernel), by decide +kernel, by decide +kernel⟩
abbrev mX1_allWine : sm_Mu := (yX1_allWine, cX1_allWine, 3, (some .int))
theorem meX1_allWine : sm_Me mX1_allWine 0 := ⟨lw_good_in (List.mem_append_right _ (List.mem_of_getElem? (i := 637) (by decide +kernel))) (by decide +kernel), lw_good_in (List.mem_append_right _ (List.mem_of_getElem? (i := 4) (by decide +kernel))) (by decide +kernel), by decide +kernel, by decide +kernel⟩
abbrev mX1_allSpirit : sm_Mu := (yX1_allSpirit, cX1_allSpirit, 3, (some .int))
theorem meX1_allSpirit : sm_Me mX1_allSpirit 0 := ⟨lw_good_in (List.mem_append_right _ (List.mem_of_getElem? (i := 641) (by decide +kernel))) (by decide +kernel), lw_good_in (List.mem_append_right _ (List.mem_of_getElem? (i := 4) (by decide +kernel))) (by decide +kernel), by decide +kernel, by decide +kernel⟩
abbrev mX9_init : sm_Mu := (yX9_init, cX9_init, 1, none)
theorem meX9_init : sm_Me mX9_init 0 := ⟨lw_good_in (List.mem_append_right _ (List.mem_of_getElem? (i := 646) (by decide +kernel))) (by decide +kernel), lw_good_in (List.mem_append_right _ (List.mem_of_getElem? (i := 10) (by decide +kernel))) (by decide +kernel), by decide +kernel, by decide +kernel⟩
abbrev mX9_type : sm_Mu := (yX9_type, cX9_type, 2, (some .int))
theorem meX9_type : sm_Me mX9_type 1 := ⟨lw_good_in (List.mem_append_right _ (List.mem_of_getElem? (i := 715) (by decide +kernel))) (by decide +kernel), lw_good_in (List.mem_append_right _ (List.mem_of_getElem? (i := 10) (by decide +kernel))) (by decide +kernel), by decide +kernel, by decide +kernel⟩
abbrev mX9_in : sm_Mu := (yX9_in, cX9_in, 3, (some .boolean))
theorem meX9_in : sm_Me mX9_in 3 := ⟨lw_good_in (List.mem_append_right _ (List.mem_of_getElem? (i := 718) (by decide +kernel))) (by decide +kernel), lw_good_in (List.mem_append_right _ (List.mem_of_getElem? (i := 10) (by decide +kernel))) (by decide +kernel), by decide +kernel, by decide +kernel⟩
abbrev mX9_clear : sm_Mu := (yX9_clear, cX9_clear, 2, (some .int))
theorem meX9_clear : sm_Me mX9_clear 0 := ⟨lw_good_in (List.mem_append_right _ (List.mem_of_getElem? (i := 722) (by decide +kernel))) (by decide +kernel), lw_good_in (List.mem_append_right _ (List.mem_of_getElem? (i := 10) (by decide +kernel))) (by decide +kernel), by decide +kernel, by decide +kernel⟩
abbrev mX9_tells : sm_Mu := (yX9_tells, cX9_tells, 3, (some .int))
theorem meX9_tells : sm_Me mX9_tells 0 := ⟨lw_good_in (List.mem_append_right _ (List.mem_of_getElem? (i := 726) (by decide +kernel))) (by decide +kernel), lw_good_in (List.mem_append_right _ (List.mem_of_getElem? (i := 10) (by decide +kernel))) (by decide +kernel), by decide +kernel, by decide +kernel⟩
abbrev mX9_reads : sm_Mu := (yX9_reads, cX9_reads, 2, (some .int))
theorem meX9_reads : sm_Me mX9_reads 0 := ⟨lw_good_in (List.mem_append_right _ (List.mem_of_getElem? (i := 730) (by decide +kernel))) (by decide +kernel), lw_good_in (List.mem_append_right _ (List.mem_of_getElem? (i := 10) (by decide +kernel))) (by decide +kernel), by decide +kernel, by decide +kernel⟩
abbrev mX9_steps : sm_Mu := (yX9_steps, cX9_steps, 1, none)
theorem meX9_steps : sm_Me mX9_steps 0 := ⟨lw_good_in (List.mem_append_right _ (List.mem_of_getElem? (i := 734) (by decide +kernel))) (by decide +kernel), lw_good_in (List.mem_append_right _ (List.mem_of_getElem? (i := 10) (by decide +kernel))) (by decide +kernel), by decide +kernel, by decide +kernel⟩
abbrev mX9_at : sm_Mu := (yX9_at, cX9_at, 2, (some .int))
theorem meX9_at : sm_Me mX9_at 1 := ⟨lw_good_in (List.mem_append_right _ (List.mem_of_getElem? (i := 738) (by decide +kernel))) (by decide +kernel), lw_good_in (List.mem_append_right _ (List.mem_of_getElem? (i := 10) (by decide +kernel))) (by decide +kernel), by decide +kernel, by decide +kernel⟩
abbrev mX9_takesFigures : sm_Mu := (yX9_takesFigures, cX9_takesFigures, 1, none)
theorem meX9_takesFigures : sm_Me mX9_takesFigures 0 := ⟨lw_good_in (List.mem_append_right _ (List.mem_of_getElem? (i := 742) (by decide +kernel))) (by decide +kernel), lw_good_in (List.mem_append_right _ (List.mem_of_getElem? (i := 10) (by decide +kernel))) (by decide +kernel), by decide +kernel, by decide +kernel⟩
abbrev mX9_isCaskWord : sm_Mu := (yX9_isCaskWord, cX9_isCaskWord, 1, (some .boolean))
theorem meX9_isCaskWord : sm_Me mX9_isCaskWord 0 := ⟨lw_good_in (List.mem_append_right _ (List.mem_of_getElem? (i := 746) (by decide +kernel))) (by decide +kernel), lw_good_in (List.mem_append_right _ (List.mem_of_getElem? (i := 10) (by decide +kernel))) (by decide +kernel), by decide +kernel, by decide +kernel⟩
abbrev mX9_isStandsWord : sm_Mu := (yX9_isStandsWord, cX9_isStandsWord, 1, (some .boolean))
theorem meX9_isStandsWord : sm_Me mX9_isStandsWord 0 := ⟨lw_good_in (List.mem_append_right _ (List.mem_of_getElem? (i := 750) (by decide +kernel))) (by decide +kernel), lw_good_in (List.mem_append_right _ (List.mem_of_getElem? (i := 10) (by decide +kernel))) (by decide +kernel), by decide +kernel, by decide +kernel⟩
abbrev mX9_readsCask : sm_Mu := (yX9_readsCask, cX9_readsCask, 5, none)
theorem meX9_readsCask : sm_Me mX9_readsCask 0 := ⟨lw_good_in (List.mem_append_right _ (List.mem_of_getElem? (i := 754) (by decide +kernel))) (by decide +kernel), lw_good_in (List.mem_append_right _ (List.mem_of_getElem? (i := 10) (by decide +kernel))) (by decide +kernel), by decide +kernel, by decide +kernel⟩
abbrev mX9_takes : sm_Mu := (yX9_takes, cX9_takes, 2, none)
theorem meX9_takes : sm_Me mX9_takes 1 := ⟨lw_good_in (List.mem_append_right _ (List.mem_of_getElem? (i := 758) (by decide +kernel))) (by decide +kernel), lw_good_in (List.mem_append_right _ (List.mem_of_getElem? (i := 10) (by decide +kernel))) (by decide +kernel), by decide +kernel, by decide +kernel⟩
abbrev mX9_numberIn : sm_Mu := (yX9_numberIn, cX9_numberIn, 4, (some .int))
theorem meX9_numberIn : sm_Me mX9_numberIn 2 := ⟨lw_good_in (List.mem_append_right _ (List.mem_of_getElem? (i := 762) (by decide +kernel))) (by decide +kernel), lw_good_in (List.mem_append_right _ (List.mem_of_getElem? (i := 10) (by decide +kernel))) (by decide +kernel), by decide +kernel, by decide +kernel⟩
abbrev mX9_readsStands : sm_Mu := (yX9_readsStands, cX9_readsStands, 2, none)
theorem meX9_readsStands : sm_Me mX9_readsStands 0 := ⟨lw_good_in (List.mem_append_right _ (List.mem_of_getElem? (i := 766) (by decide +kernel))) (by decide +kernel), lw_good_in (List.mem_append_right _ (List.mem_of_getElem? (i := 10) (by decide +kernel))) (by decide +kernel), by decide +kernel, by decide +kernel⟩
abbrev mX9_notes : sm_Mu := (yX9_notes, cX9_notes, 2, none)
theorem meX9_notes : sm_Me mX9_notes 0 := ⟨lw_good_in (List.mem_append_right _ (List.mem_of_getElem? (i := 770) (by decide +kernel))) (by decide +kernel), lw_good_in (List.mem_append_right _ (List.mem_of_getElem? (i := 10) (by decide +kernel))) (by decide +kernel), by decide +kernel, by decide +kernel⟩
abbrev mX9_fills : sm_Mu := (yX9_fills, cX9_fills, 4, (some .int))
theorem meX9_fills : sm_Me mX9_fills 3 := ⟨lw_good_in (List.mem_append_right _ (List.mem_of_getElem? (i := 774) (by decide +kernel))) (by decide +kernel), lw_good_in (List.mem_append_right _ (List.mem_of_getElem? (i := 10) (by decide +kernel))) (by decide +kernel), by decide +kernel, by decide +kernel⟩
abbrev mX9_isCask : sm_Mu := (yX9_isCask, cX9_isCask, 2, (some .boolean))
theorem meX9_isCask : sm_Me mX9_isCask 1 := ⟨lw_good_in (List.mem_append_right _ (List.mem_of_getElem? (i := 778) (by decide +kernel))) (by decide +kernel), lw_good_in (List.mem_append_right _ (List.mem_of_getElem? (i := 10) (by decide +kernel))) (by decide +kernel), by decide +kernel, by decide +kernel⟩
abbrev mX9_hold : sm_Mu := (yX9_hold, cX9_hold, 2, (some .int))
theorem meX9_hold : sm_Me mX9_hold 1 := ⟨lw_good_in (List.mem_append_right _ (List.mem_of_getElem? (i := 782) (by decide +kernel))) (by decide +kernel), lw_good_in (List.mem_append_right _ (List.mem_of_getElem? (i := 10) (by decide +kernel))) (by decide +kernel), by decide +kernel, by decide +kernel⟩
abbrev mX9_laysNow : sm_Mu := (yX9_laysNow, cX9_laysNow, 2, none)
theorem meX9_laysNow : sm_Me mX9_laysNow 1 := ⟨lw_good_in (List.mem_append_right _ (List.mem_of_getElem? (i := 786) (by decide +kernel))) (by decide +kernel), lw_good_in (List.mem_append_right _ (List.mem_of_getElem? (i := 10) (by decide +kernel))) (by decide +kernel), by decide +kernel, by decide +kernel⟩
abbrev mX9_of : sm_Mu := (yX9_of, cX9_of, 3, (some .int))
theorem meX9_of : sm_Me mX9_of 2 := ⟨lw_good_in (List.mem_append_right _ (List.mem_of_getElem? (i := 790) (by decide +kernel))) (by decide +kernel), lw_good_in (List.mem_append_right _ (List.mem_of_getElem? (i := 10) (by decide +kernel))) (by decide +kernel), by decide +kernel, by decide +kernel⟩
abbrev mX9_lays : sm_Mu := (yX9_lays, cX9_lays, 6, none)
theorem meX9_lays : sm_Me mX9_lays 2 := ⟨lw_good_in (List.mem_append_right _ (List.mem_of_getElem? (i := 794) (by decide +kernel))) (by decide +kernel), lw_good_in (List.mem_append_right _ (List.mem_of_getElem? (i := 10) (by decide +kernel))) (by decide +kernel), by decide +kernel, by decide +kernel⟩
abbrev mX9_cellsOf : sm_Mu := (yX9_cellsOf, cX9_cellsOf, 8, (some .int))
theorem meX9_cellsOf : sm_Me mX9_cellsOf 3 := ⟨lw_good_in (List.mem_append_right _ (List.mem_of_getElem? (i := 798) (by decide +kernel))) (by decide +kernel), lw_good_in (List.mem_append_right _ (List.mem_of_getElem? (i := 10) (by decide +kernel))) (by decide +kernel), by decide +kernel, by decide +kernel⟩
abbrev mX9_radius : sm_Mu := (yX9_radius, cX9_radius, 5, (some .int))
theorem meX9_radius : sm_Me mX9_radius 2 := ⟨lw_good_in (List.mem_append_right _ (List.mem_of_getElem? (i := 802) (by decide +kernel))) (by decide +kernel), lw_good_in (List.mem_append_right _ (List.mem_of_getElem? (i := 10) (by decide +kernel))) (by decide +kernel), by decide +kernel, by decide +kernel⟩
abbrev mX9_draws : sm_Mu := (yX9_draws, cX9_draws, 4, (some .int))
theorem meX9_draws : sm_Me mX9_draws 2 := ⟨lw_good_in (List.mem_append_right _ (List.mem_of_getElem? (i := 806) (by decide +kernel))) (by decide +kernel), lw_good_in (List.mem_append_right _ (List.mem_of_getElem? (i := 10) (by decide +kernel))) (by decide +kernel), by decide +kernel, by decide +kernel⟩
abbrev mX9_goes : sm_Mu := (yX9_goes, cX9_goes, 4, (some .int))
theorem meX9_goes : sm_Me mX9_goes 2 := ⟨lw_good_in (List.mem_append_right _ (List.mem_of_getElem? (i := 810) (by decide +kernel))) (by decide +kernel), lw_good_in (List.mem_append_right _ (List.mem_of_getElem? (i := 10) (by decide +kernel))) (by decide +kernel), by decide +kernel, by decide +kernel⟩
abbrev mX9_pours : sm_Mu := (yX9_pours, cX9_pours, 4, (some .int))
theorem meX9_pours : sm_Me mX9_pours 3 := ⟨lw_good_in (List.mem_append_right _ (List.mem_of_getElem? (i := 814) (by decide +kernel))) (by decide +kernel), lw_good_in (List.mem_append_right _ (List.mem_of_getElem? (i := 10) (by decide +kernel))) (by decide +kernel), by decide +kernel, by decide +kernel⟩
abbrev mX9_turnsOver : sm_Mu := (yX9_turnsOver, cX9_turnsOver, 2, (some .int))
theorem meX9_turnsOver : sm_Me mX9_turnsOver 1 := ⟨lw_good_in (List.mem_append_right _ (List.mem_of_getElem? (i := 818) (by decide +kernel))) (by decide +kernel), lw_good_in (List.mem_append_right _ (List.mem_of_getElem? (i := 10) (by decide +kernel))) (by decide +kernel), by decide +kernel, by decide +kernel⟩
abbrev mX9_undo : sm_Mu := (yX9_undo, cX9_undo, 2, (some .int))
theorem meX9_undo : sm_Me mX9_undo 0 := ⟨lw_good_in (List.mem_append_right _ (List.mem_of_getElem? (i := 822) (by decide +kernel))) (by decide +kernel), lw_good_in (List.mem_append_right _ (List.mem_of_getElem? (i := 10) (by decide +kernel))) (by decide +kernel), by decide +kernel, by decide +kernel⟩
abbrev mX9_cask : sm_Mu := (yX9_cask, cX9_cask, 3, (some .int))
theorem meX9_cask : sm_Me mX9_cask 2 := ⟨lw_good_in (List.mem_append_right _ (List.mem_of_getElem? (i := 826) (by decide +kernel))) (by decide +kernel), lw_good_in (List.mem_append_right _ (List.mem_of_getElem? (i := 10) (by decide +kernel))) (by decide +kernel), by decide +kernel, by decide +kernel⟩
abbrev mX9_dipOf : sm_Mu := (yX9_dipOf, cX9_dipOf, 3, (some .int))
theorem meX9_dipOf : sm_Me mX9_dipOf 1 := ⟨lw_good_in (List.mem_append_right _ (List.mem_of_getElem? (i := 830) (by decide +kernel))) (by decide +kernel), lw_good_in (List.mem_append_right _ (List.mem_of_getElem? (i := 10) (by decide +kernel))) (by decide +kernel), by decide +kernel, by decide +kernel⟩
abbrev mX9_strength : sm_Mu := (yX9_strength, cX9_strength, 2, (some .float))
theorem meX9_strength : sm_Me mX9_strength 1 := ⟨lw_good_in (List.mem_append_right _ (List.mem_of_getElem? (i := 835) (by decide +kernel))) (by decide +kernel), lw_good_in (List.mem_append_right _ (List.mem_of_getElem? (i := 10) (by decide +kernel))) (by decide +kernel), by decide +kernel, by decide +kernel⟩
abbrev mX9_slice : sm_Mu := (yX9_slice, cX9_slice, 4, (some .int))
theorem meX9_slice : sm_Me mX9_slice 3 := ⟨lw_good_in (List.mem_append_right _ (List.mem_of_getElem? (i := 839) (by decide +kernel))) (by decide +kernel), lw_good_in (List.mem_append_right _ (List.mem_of_getElem? (i := 10) (by decide +kernel))) (by decide +kernel), by decide +kernel, by decide +kernel⟩
abbrev mX9_under : sm_Mu := (yX9_under, cX9_under, 3, (some .int))
theorem meX9_under : sm_Me mX9_under 2 := ⟨lw_good_in (List.mem_append_right _ (List.mem_of_getElem? (i := 843) (by decide +kernel))) (by decide +kernel), lw_good_in (List.mem_append_right _ (List.mem_of_getElem? (i := 10) (by decide +kernel))) (by decide +kernel), by decide +kernel, by decide +kernel⟩
abbrev mX9_isHeight : sm_Mu := (yX9_isHeight, cX9_isHeight, 3, (some .boolean))
theorem meX9_isHeight : sm_Me mX9_isHeight 2 := ⟨lw_good_in (List.mem_append_right _ (List.mem_of_getElem? (i := 847) (by decide +kernel))) (by decide +kernel), lw_good_in (List.mem_append_right _ (List.mem_of_getElem? (i := 10) (by decide +kernel))) (by decide +kernel), by decide +kernel, by decide +kernel⟩
abbrev mX9_dip : sm_Mu := (yX9_dip, cX9_dip, 3, (some .int))
theorem meX9_dip : sm_Me mX9_dip 2 := ⟨lw_good_in (List.mem_append_right _ (List.mem_of_getElem? (i := 851) (by decide +kernel))) (by decide +kernel), lw_good_in (List.mem_append_right _ (List.mem_of_getElem? (i := 10) (by decide +kernel))) (by decide +kernel), by decide +kernel, by decide +kernel⟩
abbrev mX9_stick : sm_Mu := (yX9_stick, cX9_stick, 6, (some .int))
theorem meX9_stick : sm_Me mX9_stick 3 := ⟨lw_good_in (List.mem_append_right _ (List.mem_of_getElem? (i := 855) (by decide +kernel))) (by decide +kernel), lw_good_in (List.mem_append_right _ (List.mem_of_getElem? (i := 10) (by decide +kernel))) (by decide +kernel), by decide +kernel, by decide +kernel⟩
abbrev mX9_known : sm_Mu := (yX9_known, cX9_known, 5, (some .int))
theorem meX9_known : sm_Me mX9_known 3 := ⟨lw_good_in (List.mem_append_right _ (List.mem_of_getElem? (i := 859) (by decide +kernel))) (by decide +kernel), lw_good_in (List.mem_append_right _ (List.mem_of_getElem? (i := 10) (by decide +kernel))) (by decide +kernel), by decide +kernel, by decide +kernel⟩
abbrev mX9_shares : sm_Mu := (yX9_shares, cX9_shares, 11, (some .int))
theorem meX9_shares : sm_Me mX9_shares 3 := ⟨lw_good_in (List.mem_append_right _ (List.mem_of_getElem? (i := 863) (by decide +kernel))) (by decide +kernel), lw_good_in (List.mem_append_right _ (List.mem_of_getElem? (i := 10) (by decide +kernel))) (by decide +kernel), by decide +kernel, by decide +kernel⟩
abbrev mX9_mostBy : sm_Mu := (yX9_mostBy, cX9_mostBy, 6, (some .int))
theorem meX9_mostBy : sm_Me mX9_mostBy 3 := ⟨lw_good_in (List.mem_append_right _ (List.mem_of_getElem? (i := 867) (by decide +kernel))) (by decide +kernel), lw_good_in (List.mem_append_right _ (List.mem_of_getElem? (i := 10) (by decide +kernel))) (by decide +kernel), by decide +kernel, by decide +kernel⟩
abbrev mX9_all : sm_Mu := (yX9_all, cX9_all, 2, (some .int))
theorem meX9_all : sm_Me mX9_all 1 := ⟨lw_good_in (List.mem_append_right _ (List.mem_of_getElem? (i := 871) (by decide +kernel))) (by decide +kernel), lw_good_in (List.mem_append_right _ (List.mem_of_getElem? (i := 10) (by decide +kernel))) (by decide +kernel), by decide +kernel, by decide +kernel⟩
abbrev mX9_strongest : sm_Mu := (yX9_strongest, cX9_strongest, 3, (some .int))
theorem meX9_strongest : sm_Me mX9_strongest 0 := ⟨lw_good_in (List.mem_append_right _ (List.mem_of_getElem? (i := 875) (by decide +kernel))) (by decide +kernel), lw_good_in (List.mem_append_right _ (List.mem_of_getElem? (i := 10) (by decide +kernel))) (by decide +kernel), by decide +kernel, by decide +kernel⟩
abbrev mX9_mean : sm_Mu := (yX9_mean, cX9_mean, 4, (some .int))
theorem meX9_mean : sm_Me mX9_mean 0 := ⟨lw_good_in (List.mem_append_right _ (List.mem_of_getElem? (i := 879) (by decide +kernel))) (by decide +kernel), lw_good_in (List.mem_append_right _ (List.mem_of_getElem? (i := 10) (by decide +kernel))) (by decide +kernel), by decide +kernel, by decide +kernel⟩
abbrev mX9_sees : sm_Mu := (yX9_sees, cX9_sees, 3, (some .int))
theorem meX9_sees : sm_Me mX9_sees 2 := ⟨lw_good_in (List.mem_append_right _ (List.mem_of_getElem? (i := 883) (by decide +kernel))) (by decide +kernel), lw_good_in (List.mem_append_right _ (List.mem_of_getElem? (i := 10) (by decide +kernel))) (by decide +kernel), by decide +kernel, by decide +kernel⟩
abbrev mX9_forget : sm_Mu := (yX9_forget, cX9_forget, 2, (some .int))
theorem meX9_forget : sm_Me mX9_forget 0 := ⟨lw_good_in (List.mem_append_right _ (List.mem_of_getElem? (i := 888) (by decide +kernel))) (by decide +kernel), lw_good_in (List.mem_append_right _ (List.mem_of_getElem? (i := 10) (by decide +kernel))) (by decide +kernel), by decide +kernel, by decide +kernel⟩
abbrev mX9_which : sm_Mu := (yX9_which, cX9_which, 1, (some .int))
theorem meX9_which : sm_Me mX9_which 0 := ⟨lw_good_in (List.mem_append_right _ (List.mem_of_getElem? (i := 892) (by decide +kernel))) (by decide +kernel), lw_good_in (List.mem_append_right _ (List.mem_of_getElem? (i := 10) (by decide +kernel))) (by decide +kernel), by decide +kernel, by decide +kernel⟩
abbrev mX9_suspects : sm_Mu := (yX9_suspects, cX9_suspects, 5, (some .int))
theorem meX9_suspects : sm_Me mX9_suspects 0 := ⟨lw_good_in (List.mem_append_right _ (List.mem_of_getElem? (i := 896) (by decide +kernel))) (by decide +kernel), lw_good_in (List.mem_append_right _ (List.mem_of_getElem? (i := 10) (by decide +kernel))) (by decide +kernel), by decide +kernel, by decide +kernel⟩
abbrev mX9_ask : sm_Mu := (yX9_ask, cX9_ask, 6, (some .int))
theorem meX9_ask : sm_Me mX9_ask 0 := ⟨lw_good_in (List.mem_append_right _ (List.mem_of_getElem? (i := 900) (by decide +kernel))) (by decide +kernel), lw_good_in (List.mem_append_right _ (List.mem_of_getElem? (i := 10) (by decide +kernel))) (by decide +kernel), by decide +kernel, by decide +kernel⟩
abbrev mX9_laysDips : sm_Mu := (yX9_laysDips, cX9_laysDips, 3, none)
theorem meX9_laysDips : sm_Me mX9_laysDips 0 := ⟨lw_good_in (List.mem_append_right _ (List.mem_of_getElem? (i := 904) (by decide +kernel))) (by decide +kernel), lw_good_in (List.mem_append_right _ (List.mem_of_getElem? (i := 10) (by decide +kernel))) (by decide +kernel), by decide +kernel, by decide +kernel⟩
abbrev mX9_alike : sm_Mu := (yX9_alike, cX9_alike, 7, (some .int))
theorem meX9_alike : sm_Me mX9_alike 2 := ⟨lw_good_in (List.mem_append_right _ (List.mem_of_getElem? (i := 908) (by decide +kernel))) (by decide +kernel), lw_good_in (List.mem_append_right _ (List.mem_of_getElem? (i := 10) (by decide +kernel))) (by decide +kernel), by decide +kernel, by decide +kernel⟩
abbrev mX9_keep : sm_Mu := (yX9_keep, cX9_keep, 3, (some .int))
theorem meX9_keep : sm_Me mX9_keep 1 := ⟨lw_good_in (List.mem_append_right _ (List.mem_of_getElem? (i := 912) (by decide +kernel))) (by decide +kernel), lw_good_in (List.mem_append_right _ (List.mem_of_getElem? (i := 10) (by decide +kernel))) (by decide +kernel), by decide +kernel, by decide +kernel⟩
abbrev mX9_back : sm_Mu := (yX9_back, cX9_back, 3, (some .int))
theorem meX9_back : sm_Me mX9_back 1 := ⟨lw_good_in (List.mem_append_right _ (List.mem_of_getElem? (i := 916) (by decide +kernel))) (by decide +kernel), lw_good_in (List.mem_append_right _ (List.mem_of_getElem? (i := 10) (by decide +kernel))) (by decide +kernel), by decide +kernel, by decide +kernel⟩
abbrev mX9_count : sm_Mu := (yX9_count, cX9_count, 2, (some .int))
theorem meX9_count : sm_Me mX9_count 1 := ⟨lw_good_in (List.mem_append_right _ (List.mem_of_getElem? (i := 920) (by decide +kernel))) (by decide +kernel), lw_good_in (List.mem_append_right _ (List.mem_of_getElem? (i := 10) (by decide +kernel))) (by decide +kernel), by decide +kernel, by decide +kernel⟩
abbrev mX9_sum : sm_Mu := (yX9_sum, cX9_sum, 4, (some .int))
theorem meX9_sum : sm_Me mX9_sum 1 := ⟨lw_good_in (List.mem_append_right _ (List.mem_of_getElem? (i := 924) (by decide +kernel))) (by decide +kernel), lw_good_in (List.mem_append_right _ (List.mem_of_getElem? (i := 10) (by decide +kernel))) (by decide +kernel), by decide +kernel, by decide +kernel⟩
theorem imX8_init : Cond.instanceMethod mX8_init.1 ∈ lw_good := lw_good_in (List.mem_append_right _ (List.mem_of_getElem? (i := 20) (by decide +kernel))) (by decide +kernel)
theorem imX7_init : Cond.instanceMethod mX7_init.1 ∈ lw_good := lw_good_in (List.mem_append_right _ (List.mem_of_getElem? (i := 28) (by decide +kernel))) (by decide +kernel)
theorem imX4_init : Cond.instanceMethod mX4_init.1 ∈ lw_good := lw_good_in (List.mem_append_right _ (List.mem_of_getElem? (i := 55) (by decide +kernel))) (by decide +kernel)
theorem imX1_init : Cond.instanceMethod mX1_init.1 ∈ lw_good := lw_good_in (List.mem_append_right _ (List.mem_of_getElem? (i := 61) (by decide +kernel))) (by decide +kernel)
theorem imX0_init : Cond.instanceMethod mX0_init.1 ∈ lw_good := lw_good_in (List.mem_append_right _ (List.mem_of_getElem? (i := 68) (by decide +kernel))) (by decide +kernel)
theorem imX3_init : Cond.instanceMethod mX3_init.1 ∈ lw_good := lw_good_in (List.mem_append_right _ (List.mem_of_getElem? (i := 133) (by decide +kernel))) (by decide +kernel)
theorem imX6_init : Cond.instanceMethod mX6_init.1 ∈ lw_good := lw_good_in (List.mem_append_right _ (List.mem_of_getElem? (i := 153) (by decide +kernel))) (by decide +kernel)
theorem imX2_init : Cond.instanceMethod mX2_init.1 ∈ lw_good := lw_good_in (List.mem_append_right _ (List.mem_of_getElem? (i := 172) (by decide +kernel))) (by decide +kernel)
theorem imX5_init : Cond.instanceMethod mX5_init.1 ∈ lw_good := lw_good_in (List.mem_append_right _ (List.mem_of_getElem? (i := 197) (by decide +kernel))) (by decide +kernel)
theorem imX8_type : Cond.instanceMethod mX8_type.1 ∈ lw_good := lw_good_in (List.mem_append_right _ (List.mem_of_getElem? (i := 256) (by decide +kernel))) (by decide +kernel)
theorem seX8_type : Cond.selects mX8_type.1.cls mX8_type.1 mX8_type.1 ∈ lw_good := lw_good_in (List.mem_append_right _ (List.mem_of_getElem? (i := 257) (by decide +kernel))) (by decide +kernel)
theorem imX7_add : Cond.instanceMethod mX7_add.1 ∈ lw_good := lw_good_in (List.mem_append_right _ (List.mem_of_getElem? (i := 260) (by decide +kernel))) (by decide +kernel)
theorem seX7_add : Cond.selects mX7_add.1.cls mX7_add.1 mX7_add.1 ∈ lw_good := lw_good_in (List.mem_append_right _ (List.mem_of_getElem? (i := 261) (by decide +kernel))) (by decide +kernel)
theorem imX8_clear : Cond.instanceMethod mX8_clear.1 ∈ lw_good := lw_good_in (List.mem_append_right _ (List.mem_of_getElem? (i := 264) (by decide +kernel))) (by decide +kernel)
theorem seX8_clear : Cond.selects mX8_clear.1.cls mX8_clear.1 mX8_clear.1 ∈ lw_good := lw_good_in (List.mem_append_right _ (List.mem_of_getElem? (i := 265) (by decide +kernel))) (by decide +kernel)
theorem imX8_tells : Cond.instanceMethod mX8_tells.1 ∈ lw_good := lw_good_in (List.mem_append_right _ (List.mem_of_getElem? (i := 268) (by decide +kernel))) (by decide +kernel)
theorem seX8_tells : Cond.selects mX8_tells.1.cls mX8_tells.1 mX8_tells.1 ∈ lw_good := lw_good_in (List.mem_append_right _ (List.mem_of_getElem? (i := 269) (by decide +kernel))) (by decide +kernel)
theorem imX4_readAll : Cond.instanceMethod mX4_readAll.1 ∈ lw_good := lw_good_in (List.mem_append_right _ (List.mem_of_getElem? (i := 272) (by decide +kernel))) (by decide +kernel)
theorem seX4_readAll : Cond.selects mX4_readAll.1.cls mX4_readAll.1 mX4_readAll.1 ∈ lw_good := lw_good_in (List.mem_append_right _ (List.mem_of_getElem? (i := 273) (by decide +kernel))) (by decide +kernel)
theorem imX7_split : Cond.instanceMethod mX7_split.1 ∈ lw_good := lw_good_in (List.mem_append_right _ (List.mem_of_getElem? (i := 276) (by decide +kernel))) (by decide +kernel)
theorem seX7_split : Cond.selects mX7_split.1.cls mX7_split.1 mX7_split.1 ∈ lw_good := lw_good_in (List.mem_append_right _ (List.mem_of_getElem? (i := 277) (by decide +kernel))) (by decide +kernel)
theorem imX7_goesOn : Cond.instanceMethod mX7_goesOn.1 ∈ lw_good := lw_good_in (List.mem_append_right _ (List.mem_of_getElem? (i := 281) (by decide +kernel))) (by decide +kernel)
theorem ssX7_isSmallLetter : Cond.static mX7_isSmallLetter.1 ∈ lw_good := lw_good_in (List.mem_append_right _ (List.mem_of_getElem? (i := 284) (by decide +kernel))) (by decide +kernel)
theorem ssX7_isFigure : Cond.static mX7_isFigure.1 ∈ lw_good := lw_good_in (List.mem_append_right _ (List.mem_of_getElem? (i := 287) (by decide +kernel))) (by decide +kernel)
theorem imX7_putKind : Cond.instanceMethod mX7_putKind.1 ∈ lw_good := lw_good_in (List.mem_append_right _ (List.mem_of_getElem? (i := 291) (by decide +kernel))) (by decide +kernel)
theorem imX7_kindOfWord : Cond.instanceMethod mX7_kindOfWord.1 ∈ lw_good := lw_good_in (List.mem_append_right _ (List.mem_of_getElem? (i := 295) (by decide +kernel))) (by decide +kernel)
theorem imX7_isWord : Cond.instanceMethod mX7_isWord.1 ∈ lw_good := lw_good_in (List.mem_append_right _ (List.mem_of_getElem? (i := 300) (by decide +kernel))) (by decide +kernel)
theorem imJ0_length_8abf5 : Cond.instanceMethod mJ0_length_8abf5.1 ∈ lw_good := lw_good_in (List.mem_append_right _ (List.mem_of_getElem? (i := 303) (by decide +kernel))) (by decide +kernel)
theorem seJ0_length_8abf5 : Cond.selects mJ0_length_8abf5.1.cls mJ0_length_8abf5.1 mJ0_length_8abf5.1 ∈ lw_good := lw_good_in (List.mem_append_right _ (List.mem_of_getElem? (i := 304) (by decide +kernel))) (by decide +kernel)
theorem imJ0_coder_7d493 : Cond.instanceMethod mJ0_coder_7d493.1 ∈ lw_good := lw_good_in (List.mem_append_right _ (List.mem_of_getElem? (i := 307) (by decide +kernel))) (by decide +kernel)
theorem seJ0_coder_7d493 : Cond.selects mJ0_coder_7d493.1.cls mJ0_coder_7d493.1 mJ0_coder_7d493.1 ∈ lw_good := lw_good_in (List.mem_append_right _ (List.mem_of_getElem? (i := 308) (by decide +kernel))) (by decide +kernel)
theorem imJ0_charAt_5068e : Cond.instanceMethod mJ0_charAt_5068e.1 ∈ lw_good := lw_good_in (List.mem_append_right _ (List.mem_of_getElem? (i := 313) (by decide +kernel))) (by decide +kernel)
theorem seJ0_charAt_5068e : Cond.selects mJ0_charAt_5068e.1.cls mJ0_charAt_5068e.1 mJ0_charAt_5068e.1 ∈ lw_good := lw_good_in (List.mem_append_right _ (List.mem_of_getElem? (i := 314) (by decide +kernel))) (by decide +kernel)
theorem imJ0_isLatin1_aae02 : Cond.instanceMethod mJ0_isLatin1_aae02.1 ∈ lw_good := lw_good_in (List.mem_append_right _ (List.mem_of_getElem? (i := 317) (by decide +kernel))) (by decide +kernel)
theorem seJ0_isLatin1_aae02 : Cond.selects mJ0_isLatin1_aae02.1.cls mJ0_isLatin1_aae02.1 mJ0_isLatin1_aae02.1 ∈ lw_good := lw_good_in (List.mem_append_right _ (List.mem_of_getElem? (i := 318) (by decide +kernel))) (by decide +kernel)
theorem ssJ1_charAt_3b067 : Cond.static mJ1_charAt_3b067.1 ∈ lw_good := lw_good_in (List.mem_append_right _ (List.mem_of_getElem? (i := 321) (by decide +kernel))) (by decide +kernel)
theorem ssJ0_checkIndex_df160 : Cond.static mJ0_checkIndex_df160.1 ∈ lw_good := lw_good_in (List.mem_append_right _ (List.mem_of_getElem? (i := 324) (by decide +kernel))) (by decide +kernel)
theorem ssJ3_checkIndex_8e157 : Cond.static mJ3_checkIndex_8e157.1 ∈ lw_good := lw_good_in (List.mem_append_right _ (List.mem_of_getElem? (i := 329) (by decide +kernel))) (by decide +kernel)
theorem ssJ2_charAt_3b067 : Cond.static mJ2_charAt_3b067.1 ∈ lw_good := lw_good_in (List.mem_append_right _ (List.mem_of_getElem? (i := 332) (by decide +kernel))) (by decide +kernel)
theorem ssJ2_checkIndex_2214a : Cond.static mJ2_checkIndex_2214a.1 ∈ lw_good := lw_good_in (List.mem_append_right _ (List.mem_of_getElem? (i := 335) (by decide +kernel))) (by decide +kernel)
theorem ssJ2_length_9d52b : Cond.static mJ2_length_9d52b.1 ∈ lw_good := lw_good_in (List.mem_append_right _ (List.mem_of_getElem? (i := 338) (by decide +kernel))) (by decide +kernel)
theorem ssJ2_getChar_3b067 : Cond.static mJ2_getChar_3b067.1 ∈ lw_good := lw_good_in (List.mem_append_right _ (List.mem_of_getElem? (i := 342) (by decide +kernel))) (by decide +kernel)
theorem imX7_kindOfNumber : Cond.instanceMethod mX7_kindOfNumber.1 ∈ lw_good := lw_good_in (List.mem_append_right _ (List.mem_of_getElem? (i := 353) (by decide +kernel))) (by decide +kernel)
theorem imX7_valueOf : Cond.instanceMethod mX7_valueOf.1 ∈ lw_good := lw_good_in (List.mem_append_right _ (List.mem_of_getElem? (i := 357) (by decide +kernel))) (by decide +kernel)
theorem imX1_empty : Cond.instanceMethod mX1_empty.1 ∈ lw_good := lw_good_in (List.mem_append_right _ (List.mem_of_getElem? (i := 360) (by decide +kernel))) (by decide +kernel)
theorem seX1_empty : Cond.selects mX1_empty.1.cls mX1_empty.1 mX1_empty.1 ∈ lw_good := lw_good_in (List.mem_append_right _ (List.mem_of_getElem? (i := 361) (by decide +kernel))) (by decide +kernel)
theorem imX4_readItem : Cond.instanceMethod mX4_readItem.1 ∈ lw_good := lw_good_in (List.mem_append_right _ (List.mem_of_getElem? (i := 365) (by decide +kernel))) (by decide +kernel)
theorem imX4_readCask : Cond.instanceMethod mX4_readCask.1 ∈ lw_good := lw_good_in (List.mem_append_right _ (List.mem_of_getElem? (i := 369) (by decide +kernel))) (by decide +kernel)
theorem imX4_readNumber : Cond.instanceMethod mX4_readNumber.1 ∈ lw_good := lw_good_in (List.mem_append_right _ (List.mem_of_getElem? (i := 373) (by decide +kernel))) (by decide +kernel)
theorem imX4_step : Cond.instanceMethod mX4_step.1 ∈ lw_good := lw_good_in (List.mem_append_right _ (List.mem_of_getElem? (i := 377) (by decide +kernel))) (by decide +kernel)
theorem imX4_readItemEnd : Cond.instanceMethod mX4_readItemEnd.1 ∈ lw_good := lw_good_in (List.mem_append_right _ (List.mem_of_getElem? (i := 381) (by decide +kernel))) (by decide +kernel)
theorem imX1_add : Cond.instanceMethod mX1_add.1 ∈ lw_good := lw_good_in (List.mem_append_right _ (List.mem_of_getElem? (i := 384) (by decide +kernel))) (by decide +kernel)
theorem seX1_add : Cond.selects mX1_add.1.cls mX1_add.1 mX1_add.1 ∈ lw_good := lw_good_in (List.mem_append_right _ (List.mem_of_getElem? (i := 385) (by decide +kernel))) (by decide +kernel)
theorem imX0_becomeNew : Cond.instanceMethod mX0_becomeNew.1 ∈ lw_good := lw_good_in (List.mem_append_right _ (List.mem_of_getElem? (i := 388) (by decide +kernel))) (by decide +kernel)
theorem seX0_becomeNew : Cond.selects mX0_becomeNew.1.cls mX0_becomeNew.1 mX0_becomeNew.1 ∈ lw_good := lw_good_in (List.mem_append_right _ (List.mem_of_getElem? (i := 389) (by decide +kernel))) (by decide +kernel)
theorem imX4_readStands : Cond.instanceMethod mX4_readStands.1 ∈ lw_good := lw_good_in (List.mem_append_right _ (List.mem_of_getElem? (i := 393) (by decide +kernel))) (by decide +kernel)
theorem imX1_has : Cond.instanceMethod mX1_has.1 ∈ lw_good := lw_good_in (List.mem_append_right _ (List.mem_of_getElem? (i := 396) (by decide +kernel))) (by decide +kernel)
theorem seX1_has : Cond.selects mX1_has.1.cls mX1_has.1 mX1_has.1 ∈ lw_good := lw_good_in (List.mem_append_right _ (List.mem_of_getElem? (i := 397) (by decide +kernel))) (by decide +kernel)
theorem imX4_faultPlace : Cond.instanceMethod mX4_faultPlace.1 ∈ lw_good := lw_good_in (List.mem_append_right _ (List.mem_of_getElem? (i := 400) (by decide +kernel))) (by decide +kernel)
theorem seX4_faultPlace : Cond.selects mX4_faultPlace.1.cls mX4_faultPlace.1 mX4_faultPlace.1 ∈ lw_good := lw_good_in (List.mem_append_right _ (List.mem_of_getElem? (i := 401) (by decide +kernel))) (by decide +kernel)
theorem imX3_remember : Cond.instanceMethod mX3_remember.1 ∈ lw_good := lw_good_in (List.mem_append_right _ (List.mem_of_getElem? (i := 404) (by decide +kernel))) (by decide +kernel)
theorem seX3_remember : Cond.selects mX3_remember.1.cls mX3_remember.1 mX3_remember.1 ∈ lw_good := lw_good_in (List.mem_append_right _ (List.mem_of_getElem? (i := 405) (by decide +kernel))) (by decide +kernel)
theorem imX1_copyFrom : Cond.instanceMethod mX1_copyFrom.1 ∈ lw_good := lw_good_in (List.mem_append_right _ (List.mem_of_getElem? (i := 408) (by decide +kernel))) (by decide +kernel)
theorem seX1_copyFrom : Cond.selects mX1_copyFrom.1.cls mX1_copyFrom.1 mX1_copyFrom.1 ∈ lw_good := lw_good_in (List.mem_append_right _ (List.mem_of_getElem? (i := 409) (by decide +kernel))) (by decide +kernel)
theorem imX0_copyFrom : Cond.instanceMethod mX0_copyFrom.1 ∈ lw_good := lw_good_in (List.mem_append_right _ (List.mem_of_getElem? (i := 412) (by decide +kernel))) (by decide +kernel)
theorem seX0_copyFrom : Cond.selects mX0_copyFrom.1.cls mX0_copyFrom.1 mX0_copyFrom.1 ∈ lw_good := lw_good_in (List.mem_append_right _ (List.mem_of_getElem? (i := 413) (by decide +kernel))) (by decide +kernel)
theorem ssJ9_min_7cf53 : Cond.static mJ9_min_7cf53.1 ∈ lw_good := lw_good_in (List.mem_append_right _ (List.mem_of_getElem? (i := 416) (by decide +kernel))) (by decide +kernel)
theorem imX8_fills : Cond.instanceMethod mX8_fills.1 ∈ lw_good := lw_good_in (List.mem_append_right _ (List.mem_of_getElem? (i := 421) (by decide +kernel))) (by decide +kernel)
theorem seX8_fills : Cond.selects mX8_fills.1.cls mX8_fills.1 mX8_fills.1 ∈ lw_good := lw_good_in (List.mem_append_right _ (List.mem_of_getElem? (i := 422) (by decide +kernel))) (by decide +kernel)
theorem imX8_roomIn : Cond.instanceMethod mX8_roomIn.1 ∈ lw_good := lw_good_in (List.mem_append_right _ (List.mem_of_getElem? (i := 427) (by decide +kernel))) (by decide +kernel)
theorem imX8_levelsOf : Cond.instanceMethod mX8_levelsOf.1 ∈ lw_good := lw_good_in (List.mem_append_right _ (List.mem_of_getElem? (i := 431) (by decide +kernel))) (by decide +kernel)
theorem imX8_lyingLevelsOf : Cond.instanceMethod mX8_lyingLevelsOf.1 ∈ lw_good := lw_good_in (List.mem_append_right _ (List.mem_of_getElem? (i := 435) (by decide +kernel))) (by decide +kernel)
theorem imX2_measure : Cond.instanceMethod mX2_measure.1 ∈ lw_good := lw_good_in (List.mem_append_right _ (List.mem_of_getElem? (i := 438) (by decide +kernel))) (by decide +kernel)
theorem seX2_measure : Cond.selects mX2_measure.1.cls mX2_measure.1 mX2_measure.1 ∈ lw_good := lw_good_in (List.mem_append_right _ (List.mem_of_getElem? (i := 439) (by decide +kernel))) (by decide +kernel)
theorem imX0_radiusOf : Cond.instanceMethod mX0_radiusOf.1 ∈ lw_good := lw_good_in (List.mem_append_right _ (List.mem_of_getElem? (i := 443) (by decide +kernel))) (by decide +kernel)
theorem seX0_radiusOf : Cond.selects mX0_radiusOf.1.cls mX0_radiusOf.1 mX0_radiusOf.1 ∈ lw_good := lw_good_in (List.mem_append_right _ (List.mem_of_getElem? (i := 444) (by decide +kernel))) (by decide +kernel)
theorem imX0_cellsOf : Cond.instanceMethod mX0_cellsOf.1 ∈ lw_good := lw_good_in (List.mem_append_right _ (List.mem_of_getElem? (i := 447) (by decide +kernel))) (by decide +kernel)
theorem seX0_cellsOf : Cond.selects mX0_cellsOf.1.cls mX0_cellsOf.1 mX0_cellsOf.1 ∈ lw_good := lw_good_in (List.mem_append_right _ (List.mem_of_getElem? (i := 448) (by decide +kernel))) (by decide +kernel)
theorem imX2_addAhead : Cond.instanceMethod mX2_addAhead.1 ∈ lw_good := lw_good_in (List.mem_append_right _ (List.mem_of_getElem? (i := 452) (by decide +kernel))) (by decide +kernel)
theorem imX2_reach : Cond.instanceMethod mX2_reach.1 ∈ lw_good := lw_good_in (List.mem_append_right _ (List.mem_of_getElem? (i := 455) (by decide +kernel))) (by decide +kernel)
theorem seX2_reach : Cond.selects mX2_reach.1.cls mX2_reach.1 mX2_reach.1 ∈ lw_good := lw_good_in (List.mem_append_right _ (List.mem_of_getElem? (i := 456) (by decide +kernel))) (by decide +kernel)
theorem imX2_hold : Cond.instanceMethod mX2_hold.1 ∈ lw_good := lw_good_in (List.mem_append_right _ (List.mem_of_getElem? (i := 459) (by decide +kernel))) (by decide +kernel)
theorem seX2_hold : Cond.selects mX2_hold.1.cls mX2_hold.1 mX2_hold.1 ∈ lw_good := lw_good_in (List.mem_append_right _ (List.mem_of_getElem? (i := 460) (by decide +kernel))) (by decide +kernel)
theorem imX2_amountAt : Cond.instanceMethod mX2_amountAt.1 ∈ lw_good := lw_good_in (List.mem_append_right _ (List.mem_of_getElem? (i := 463) (by decide +kernel))) (by decide +kernel)
theorem seX2_amountAt : Cond.selects mX2_amountAt.1.cls mX2_amountAt.1 mX2_amountAt.1 ∈ lw_good := lw_good_in (List.mem_append_right _ (List.mem_of_getElem? (i := 464) (by decide +kernel))) (by decide +kernel)
theorem imX0_takeIn : Cond.instanceMethod mX0_takeIn.1 ∈ lw_good := lw_good_in (List.mem_append_right _ (List.mem_of_getElem? (i := 467) (by decide +kernel))) (by decide +kernel)
theorem seX0_takeIn : Cond.selects mX0_takeIn.1.cls mX0_takeIn.1 mX0_takeIn.1 ∈ lw_good := lw_good_in (List.mem_append_right _ (List.mem_of_getElem? (i := 468) (by decide +kernel))) (by decide +kernel)
theorem imX8_draws : Cond.instanceMethod mX8_draws.1 ∈ lw_good := lw_good_in (List.mem_append_right _ (List.mem_of_getElem? (i := 471) (by decide +kernel))) (by decide +kernel)
theorem seX8_draws : Cond.selects mX8_draws.1.cls mX8_draws.1 mX8_draws.1 ∈ lw_good := lw_good_in (List.mem_append_right _ (List.mem_of_getElem? (i := 472) (by decide +kernel))) (by decide +kernel)
theorem imX0_giveOut : Cond.instanceMethod mX0_giveOut.1 ∈ lw_good := lw_good_in (List.mem_append_right _ (List.mem_of_getElem? (i := 475) (by decide +kernel))) (by decide +kernel)
theorem seX0_giveOut : Cond.selects mX0_giveOut.1.cls mX0_giveOut.1 mX0_giveOut.1 ∈ lw_good := lw_good_in (List.mem_append_right _ (List.mem_of_getElem? (i := 476) (by decide +kernel))) (by decide +kernel)
theorem imX8_pours : Cond.instanceMethod mX8_pours.1 ∈ lw_good := lw_good_in (List.mem_append_right _ (List.mem_of_getElem? (i := 479) (by decide +kernel))) (by decide +kernel)
theorem seX8_pours : Cond.selects mX8_pours.1.cls mX8_pours.1 mX8_pours.1 ∈ lw_good := lw_good_in (List.mem_append_right _ (List.mem_of_getElem? (i := 480) (by decide +kernel))) (by decide +kernel)
theorem imX8_turnsOver : Cond.instanceMethod mX8_turnsOver.1 ∈ lw_good := lw_good_in (List.mem_append_right _ (List.mem_of_getElem? (i := 483) (by decide +kernel))) (by decide +kernel)
theorem seX8_turnsOver : Cond.selects mX8_turnsOver.1.cls mX8_turnsOver.1 mX8_turnsOver.1 ∈ lw_good := lw_good_in (List.mem_append_right _ (List.mem_of_getElem? (i := 484) (by decide +kernel))) (by decide +kernel)
theorem imX8_undo : Cond.instanceMethod mX8_undo.1 ∈ lw_good := lw_good_in (List.mem_append_right _ (List.mem_of_getElem? (i := 487) (by decide +kernel))) (by decide +kernel)
theorem seX8_undo : Cond.selects mX8_undo.1.cls mX8_undo.1 mX8_undo.1 ∈ lw_good := lw_good_in (List.mem_append_right _ (List.mem_of_getElem? (i := 488) (by decide +kernel))) (by decide +kernel)
theorem imX3_recallInto : Cond.instanceMethod mX3_recallInto.1 ∈ lw_good := lw_good_in (List.mem_append_right _ (List.mem_of_getElem? (i := 491) (by decide +kernel))) (by decide +kernel)
theorem seX3_recallInto : Cond.selects mX3_recallInto.1.cls mX3_recallInto.1 mX3_recallInto.1 ∈ lw_good := lw_good_in (List.mem_append_right _ (List.mem_of_getElem? (i := 492) (by decide +kernel))) (by decide +kernel)
theorem imX8_cask : Cond.instanceMethod mX8_cask.1 ∈ lw_good := lw_good_in (List.mem_append_right _ (List.mem_of_getElem? (i := 495) (by decide +kernel))) (by decide +kernel)
theorem seX8_cask : Cond.selects mX8_cask.1.cls mX8_cask.1 mX8_cask.1 ∈ lw_good := lw_good_in (List.mem_append_right _ (List.mem_of_getElem? (i := 496) (by decide +kernel))) (by decide +kernel)
theorem imX2_leastDip : Cond.instanceMethod mX2_leastDip.1 ∈ lw_good := lw_good_in (List.mem_append_right _ (List.mem_of_getElem? (i := 499) (by decide +kernel))) (by decide +kernel)
theorem seX2_leastDip : Cond.selects mX2_leastDip.1.cls mX2_leastDip.1 mX2_leastDip.1 ∈ lw_good := lw_good_in (List.mem_append_right _ (List.mem_of_getElem? (i := 500) (by decide +kernel))) (by decide +kernel)
theorem imX2_leastDipFrom : Cond.instanceMethod mX2_leastDipFrom.1 ∈ lw_good := lw_good_in (List.mem_append_right _ (List.mem_of_getElem? (i := 503) (by decide +kernel))) (by decide +kernel)
theorem seX2_leastDipFrom : Cond.selects mX2_leastDipFrom.1.cls mX2_leastDipFrom.1 mX2_leastDipFrom.1 ∈ lw_good := lw_good_in (List.mem_append_right _ (List.mem_of_getElem? (i := 504) (by decide +kernel))) (by decide +kernel)
theorem ssJ9_max_7cf53 : Cond.static mJ9_max_7cf53.1 ∈ lw_good := lw_good_in (List.mem_append_right _ (List.mem_of_getElem? (i := 507) (by decide +kernel))) (by decide +kernel)
theorem imX0_strength : Cond.instanceMethod mX0_strength.1 ∈ lw_good := lw_good_in (List.mem_append_right _ (List.mem_of_getElem? (i := 510) (by decide +kernel))) (by decide +kernel)
theorem seX0_strength : Cond.selects mX0_strength.1.cls mX0_strength.1 mX0_strength.1 ∈ lw_good := lw_good_in (List.mem_append_right _ (List.mem_of_getElem? (i := 511) (by decide +kernel))) (by decide +kernel)
theorem ssX8_inThousandths : Cond.static mX8_inThousandths.1 ∈ lw_good := lw_good_in (List.mem_append_right _ (List.mem_of_getElem? (i := 514) (by decide +kernel))) (by decide +kernel)
theorem imX8_slice : Cond.instanceMethod mX8_slice.1 ∈ lw_good := lw_good_in (List.mem_append_right _ (List.mem_of_getElem? (i := 518) (by decide +kernel))) (by decide +kernel)
theorem seX8_slice : Cond.selects mX8_slice.1.cls mX8_slice.1 mX8_slice.1 ∈ lw_good := lw_good_in (List.mem_append_right _ (List.mem_of_getElem? (i := 519) (by decide +kernel))) (by decide +kernel)
theorem imX8_under : Cond.instanceMethod mX8_under.1 ∈ lw_good := lw_good_in (List.mem_append_right _ (List.mem_of_getElem? (i := 524) (by decide +kernel))) (by decide +kernel)
theorem seX8_under : Cond.selects mX8_under.1.cls mX8_under.1 mX8_under.1 ∈ lw_good := lw_good_in (List.mem_append_right _ (List.mem_of_getElem? (i := 525) (by decide +kernel))) (by decide +kernel)
theorem imX8_dip : Cond.instanceMethod mX8_dip.1 ∈ lw_good := lw_good_in (List.mem_append_right _ (List.mem_of_getElem? (i := 530) (by decide +kernel))) (by decide +kernel)
theorem seX8_dip : Cond.selects mX8_dip.1.cls mX8_dip.1 mX8_dip.1 ∈ lw_good := lw_good_in (List.mem_append_right _ (List.mem_of_getElem? (i := 531) (by decide +kernel))) (by decide +kernel)
theorem imX8_stick : Cond.instanceMethod mX8_stick.1 ∈ lw_good := lw_good_in (List.mem_append_right _ (List.mem_of_getElem? (i := 534) (by decide +kernel))) (by decide +kernel)
theorem seX8_stick : Cond.selects mX8_stick.1.cls mX8_stick.1 mX8_stick.1 ∈ lw_good := lw_good_in (List.mem_append_right _ (List.mem_of_getElem? (i := 535) (by decide +kernel))) (by decide +kernel)
theorem imX2_markAt : Cond.instanceMethod mX2_markAt.1 ∈ lw_good := lw_good_in (List.mem_append_right _ (List.mem_of_getElem? (i := 538) (by decide +kernel))) (by decide +kernel)
theorem seX2_markAt : Cond.selects mX2_markAt.1.cls mX2_markAt.1 mX2_markAt.1 ∈ lw_good := lw_good_in (List.mem_append_right _ (List.mem_of_getElem? (i := 539) (by decide +kernel))) (by decide +kernel)
theorem imX8_known : Cond.instanceMethod mX8_known.1 ∈ lw_good := lw_good_in (List.mem_append_right _ (List.mem_of_getElem? (i := 543) (by decide +kernel))) (by decide +kernel)
theorem seX8_known : Cond.selects mX8_known.1.cls mX8_known.1 mX8_known.1 ∈ lw_good := lw_good_in (List.mem_append_right _ (List.mem_of_getElem? (i := 544) (by decide +kernel))) (by decide +kernel)
theorem imX8_shares : Cond.instanceMethod mX8_shares.1 ∈ lw_good := lw_good_in (List.mem_append_right _ (List.mem_of_getElem? (i := 547) (by decide +kernel))) (by decide +kernel)
theorem seX8_shares : Cond.selects mX8_shares.1.cls mX8_shares.1 mX8_shares.1 ∈ lw_good := lw_good_in (List.mem_append_right _ (List.mem_of_getElem? (i := 548) (by decide +kernel))) (by decide +kernel)
theorem imX5_findFairest : Cond.instanceMethod mX5_findFairest.1 ∈ lw_good := lw_good_in (List.mem_append_right _ (List.mem_of_getElem? (i := 551) (by decide +kernel))) (by decide +kernel)
theorem seX5_findFairest : Cond.selects mX5_findFairest.1.cls mX5_findFairest.1 mX5_findFairest.1 ∈ lw_good := lw_good_in (List.mem_append_right _ (List.mem_of_getElem? (i := 552) (by decide +kernel))) (by decide +kernel)
theorem imX5_weigh : Cond.instanceMethod mX5_weigh.1 ∈ lw_good := lw_good_in (List.mem_append_right _ (List.mem_of_getElem? (i := 558) (by decide +kernel))) (by decide +kernel)
theorem imX8_all : Cond.instanceMethod mX8_all.1 ∈ lw_good := lw_good_in (List.mem_append_right _ (List.mem_of_getElem? (i := 563) (by decide +kernel))) (by decide +kernel)
theorem seX8_all : Cond.selects mX8_all.1.cls mX8_all.1 mX8_all.1 ∈ lw_good := lw_good_in (List.mem_append_right _ (List.mem_of_getElem? (i := 564) (by decide +kernel))) (by decide +kernel)
theorem imX1_strongest : Cond.instanceMethod mX1_strongest.1 ∈ lw_good := lw_good_in (List.mem_append_right _ (List.mem_of_getElem? (i := 567) (by decide +kernel))) (by decide +kernel)
theorem seX1_strongest : Cond.selects mX1_strongest.1.cls mX1_strongest.1 mX1_strongest.1 ∈ lw_good := lw_good_in (List.mem_append_right _ (List.mem_of_getElem? (i := 568) (by decide +kernel))) (by decide +kernel)
theorem imX1_meanStrength : Cond.instanceMethod mX1_meanStrength.1 ∈ lw_good := lw_good_in (List.mem_append_right _ (List.mem_of_getElem? (i := 572) (by decide +kernel))) (by decide +kernel)
theorem seX1_meanStrength : Cond.selects mX1_meanStrength.1.cls mX1_meanStrength.1 mX1_meanStrength.1 ∈ lw_good := lw_good_in (List.mem_append_right _ (List.mem_of_getElem? (i := 573) (by decide +kernel))) (by decide +kernel)
theorem imX8_sees : Cond.instanceMethod mX8_sees.1 ∈ lw_good := lw_good_in (List.mem_append_right _ (List.mem_of_getElem? (i := 576) (by decide +kernel))) (by decide +kernel)
theorem seX8_sees : Cond.selects mX8_sees.1.cls mX8_sees.1 mX8_sees.1 ∈ lw_good := lw_good_in (List.mem_append_right _ (List.mem_of_getElem? (i := 577) (by decide +kernel))) (by decide +kernel)
theorem imX6_add : Cond.instanceMethod mX6_add.1 ∈ lw_good := lw_good_in (List.mem_append_right _ (List.mem_of_getElem? (i := 581) (by decide +kernel))) (by decide +kernel)
theorem seX6_add : Cond.selects mX6_add.1.cls mX6_add.1 mX6_add.1 ∈ lw_good := lw_good_in (List.mem_append_right _ (List.mem_of_getElem? (i := 582) (by decide +kernel))) (by decide +kernel)
theorem imX8_forget : Cond.instanceMethod mX8_forget.1 ∈ lw_good := lw_good_in (List.mem_append_right _ (List.mem_of_getElem? (i := 585) (by decide +kernel))) (by decide +kernel)
theorem seX8_forget : Cond.selects mX8_forget.1.cls mX8_forget.1 mX8_forget.1 ∈ lw_good := lw_good_in (List.mem_append_right _ (List.mem_of_getElem? (i := 586) (by decide +kernel))) (by decide +kernel)
theorem imX8_which : Cond.instanceMethod mX8_which.1 ∈ lw_good := lw_good_in (List.mem_append_right _ (List.mem_of_getElem? (i := 589) (by decide +kernel))) (by decide +kernel)
theorem seX8_which : Cond.selects mX8_which.1.cls mX8_which.1 mX8_which.1 ∈ lw_good := lw_good_in (List.mem_append_right _ (List.mem_of_getElem? (i := 590) (by decide +kernel))) (by decide +kernel)
theorem imX6_fits : Cond.instanceMethod mX6_fits.1 ∈ lw_good := lw_good_in (List.mem_append_right _ (List.mem_of_getElem? (i := 593) (by decide +kernel))) (by decide +kernel)
theorem seX6_fits : Cond.selects mX6_fits.1.cls mX6_fits.1 mX6_fits.1 ∈ lw_good := lw_good_in (List.mem_append_right _ (List.mem_of_getElem? (i := 594) (by decide +kernel))) (by decide +kernel)
theorem imX8_ask : Cond.instanceMethod mX8_ask.1 ∈ lw_good := lw_good_in (List.mem_append_right _ (List.mem_of_getElem? (i := 598) (by decide +kernel))) (by decide +kernel)
theorem seX8_ask : Cond.selects mX8_ask.1.cls mX8_ask.1 mX8_ask.1 ∈ lw_good := lw_good_in (List.mem_append_right _ (List.mem_of_getElem? (i := 599) (by decide +kernel))) (by decide +kernel)
theorem ssJ6_bitCount_0f7a4 : Cond.static mJ6_bitCount_0f7a4.1 ∈ lw_good := lw_good_in (List.mem_append_right _ (List.mem_of_getElem? (i := 603) (by decide +kernel))) (by decide +kernel)
theorem imX8_startAsking : Cond.instanceMethod mX8_startAsking.1 ∈ lw_good := lw_good_in (List.mem_append_right _ (List.mem_of_getElem? (i := 610) (by decide +kernel))) (by decide +kernel)
theorem imX8_mostAlike : Cond.instanceMethod mX8_mostAlike.1 ∈ lw_good := lw_good_in (List.mem_append_right _ (List.mem_of_getElem? (i := 614) (by decide +kernel))) (by decide +kernel)
theorem imX8_raiseAskedDips : Cond.instanceMethod mX8_raiseAskedDips.1 ∈ lw_good := lw_good_in (List.mem_append_right _ (List.mem_of_getElem? (i := 619) (by decide +kernel))) (by decide +kernel)
theorem imX8_keep : Cond.instanceMethod mX8_keep.1 ∈ lw_good := lw_good_in (List.mem_append_right _ (List.mem_of_getElem? (i := 623) (by decide +kernel))) (by decide +kernel)
theorem seX8_keep : Cond.selects mX8_keep.1.cls mX8_keep.1 mX8_keep.1 ∈ lw_good := lw_good_in (List.mem_append_right _ (List.mem_of_getElem? (i := 624) (by decide +kernel))) (by decide +kernel)
theorem imX8_back : Cond.instanceMethod mX8_back.1 ∈ lw_good := lw_good_in (List.mem_append_right _ (List.mem_of_getElem? (i := 627) (by decide +kernel))) (by decide +kernel)
theorem seX8_back : Cond.selects mX8_back.1.cls mX8_back.1 mX8_back.1 ∈ lw_good := lw_good_in (List.mem_append_right _ (List.mem_of_getElem? (i := 628) (by decide +kernel))) (by decide +kernel)
theorem imX8_count : Cond.instanceMethod mX8_count.1 ∈ lw_good := lw_good_in (List.mem_append_right _ (List.mem_of_getElem? (i := 631) (by decide +kernel))) (by decide +kernel)
theorem seX8_count : Cond.selects mX8_count.1.cls mX8_count.1 mX8_count.1 ∈ lw_good := lw_good_in (List.mem_append_right _ (List.mem_of_getElem? (i := 632) (by decide +kernel))) (by decide +kernel)
theorem imX1_allWine : Cond.instanceMethod mX1_allWine.1 ∈ lw_good := lw_good_in (List.mem_append_right _ (List.mem_of_getElem? (i := 635) (by decide +kernel))) (by decide +kernel)
theorem seX1_allWine : Cond.selects mX1_allWine.1.cls mX1_allWine.1 mX1_allWine.1 ∈ lw_good := lw_good_in (List.mem_append_right _ (List.mem_of_getElem? (i := 636) (by decide +kernel))) (by decide +kernel)
theorem imX1_allSpirit : Cond.instanceMethod mX1_allSpirit.1 ∈ lw_good := lw_good_in (List.mem_append_right _ (List.mem_of_getElem? (i := 639) (by decide +kernel))) (by decide +kernel)
theorem seX1_allSpirit : Cond.selects mX1_allSpirit.1.cls mX1_allSpirit.1 mX1_allSpirit.1 ∈ lw_good := lw_good_in (List.mem_append_right _ (List.mem_of_getElem? (i := 640) (by decide +kernel))) (by decide +kernel)
theorem imX9_init : Cond.instanceMethod mX9_init.1 ∈ lw_good := lw_good_in (List.mem_append_right _ (List.mem_of_getElem? (i := 645) (by decide +kernel))) (by decide +kernel)
theorem imX9_type : Cond.instanceMethod mX9_type.1 ∈ lw_good := lw_good_in (List.mem_append_right _ (List.mem_of_getElem? (i := 713) (by decide +kernel))) (by decide +kernel)
theorem seX9_type : Cond.selects mX9_type.1.cls mX9_type.1 mX9_type.1 ∈ lw_good := lw_good_in (List.mem_append_right _ (List.mem_of_getElem? (i := 714) (by decide +kernel))) (by decide +kernel)
theorem ssX9_in : Cond.static mX9_in.1 ∈ lw_good := lw_good_in (List.mem_append_right _ (List.mem_of_getElem? (i := 717) (by decide +kernel))) (by decide +kernel)
theorem imX9_clear : Cond.instanceMethod mX9_clear.1 ∈ lw_good := lw_good_in (List.mem_append_right _ (List.mem_of_getElem? (i := 720) (by decide +kernel))) (by decide +kernel)
theorem seX9_clear : Cond.selects mX9_clear.1.cls mX9_clear.1 mX9_clear.1 ∈ lw_good := lw_good_in (List.mem_append_right _ (List.mem_of_getElem? (i := 721) (by decide +kernel))) (by decide +kernel)
theorem imX9_tells : Cond.instanceMethod mX9_tells.1 ∈ lw_good := lw_good_in (List.mem_append_right _ (List.mem_of_getElem? (i := 724) (by decide +kernel))) (by decide +kernel)
theorem seX9_tells : Cond.selects mX9_tells.1.cls mX9_tells.1 mX9_tells.1 ∈ lw_good := lw_good_in (List.mem_append_right _ (List.mem_of_getElem? (i := 725) (by decide +kernel))) (by decide +kernel)
theorem imX9_reads : Cond.instanceMethod mX9_reads.1 ∈ lw_good := lw_good_in (List.mem_append_right _ (List.mem_of_getElem? (i := 729) (by decide +kernel))) (by decide +kernel)
theorem imX9_steps : Cond.instanceMethod mX9_steps.1 ∈ lw_good := lw_good_in (List.mem_append_right _ (List.mem_of_getElem? (i := 733) (by decide +kernel))) (by decide +kernel)
theorem imX9_at : Cond.instanceMethod mX9_at.1 ∈ lw_good := lw_good_in (List.mem_append_right _ (List.mem_of_getElem? (i := 737) (by decide +kernel))) (by decide +kernel)
theorem imX9_takesFigures : Cond.instanceMethod mX9_takesFigures.1 ∈ lw_good := lw_good_in (List.mem_append_right _ (List.mem_of_getElem? (i := 741) (by decide +kernel))) (by decide +kernel)
theorem imX9_isCaskWord : Cond.instanceMethod mX9_isCaskWord.1 ∈ lw_good := lw_good_in (List.mem_append_right _ (List.mem_of_getElem? (i := 745) (by decide +kernel))) (by decide +kernel)
theorem imX9_isStandsWord : Cond.instanceMethod mX9_isStandsWord.1 ∈ lw_good := lw_good_in (List.mem_append_right _ (List.mem_of_getElem? (i := 749) (by decide +kernel))) (by decide +kernel)
theorem imX9_readsCask : Cond.instanceMethod mX9_readsCask.1 ∈ lw_good := lw_good_in (List.mem_append_right _ (List.mem_of_getElem? (i := 753) (by decide +kernel))) (by decide +kernel)
theorem imX9_takes : Cond.instanceMethod mX9_takes.1 ∈ lw_good := lw_good_in (List.mem_append_right _ (List.mem_of_getElem? (i := 757) (by decide +kernel))) (by decide +kernel)
theorem imX9_numberIn : Cond.instanceMethod mX9_numberIn.1 ∈ lw_good := lw_good_in (List.mem_append_right _ (List.mem_of_getElem? (i := 761) (by decide +kernel))) (by decide +kernel)
theorem imX9_readsStands : Cond.instanceMethod mX9_readsStands.1 ∈ lw_good := lw_good_in (List.mem_append_right _ (List.mem_of_getElem? (i := 765) (by decide +kernel))) (by decide +kernel)
theorem imX9_notes : Cond.instanceMethod mX9_notes.1 ∈ lw_good := lw_good_in (List.mem_append_right _ (List.mem_of_getElem? (i := 769) (by decide +kernel))) (by decide +kernel)
theorem imX9_fills : Cond.instanceMethod mX9_fills.1 ∈ lw_good := lw_good_in (List.mem_append_right _ (List.mem_of_getElem? (i := 772) (by decide +kernel))) (by decide +kernel)
theorem seX9_fills : Cond.selects mX9_fills.1.cls mX9_fills.1 mX9_fills.1 ∈ lw_good := lw_good_in (List.mem_append_right _ (List.mem_of_getElem? (i := 773) (by decide +kernel))) (by decide +kernel)
theorem imX9_isCask : Cond.instanceMethod mX9_isCask.1 ∈ lw_good := lw_good_in (List.mem_append_right _ (List.mem_of_getElem? (i := 777) (by decide +kernel))) (by decide +kernel)
theorem imX9_hold : Cond.instanceMethod mX9_hold.1 ∈ lw_good := lw_good_in (List.mem_append_right _ (List.mem_of_getElem? (i := 781) (by decide +kernel))) (by decide +kernel)
theorem imX9_laysNow : Cond.instanceMethod mX9_laysNow.1 ∈ lw_good := lw_good_in (List.mem_append_right _ (List.mem_of_getElem? (i := 785) (by decide +kernel))) (by decide +kernel)
theorem imX9_of : Cond.instanceMethod mX9_of.1 ∈ lw_good := lw_good_in (List.mem_append_right _ (List.mem_of_getElem? (i := 789) (by decide +kernel))) (by decide +kernel)
theorem imX9_lays : Cond.instanceMethod mX9_lays.1 ∈ lw_good := lw_good_in (List.mem_append_right _ (List.mem_of_getElem? (i := 793) (by decide +kernel))) (by decide +kernel)
theorem imX9_cellsOf : Cond.instanceMethod mX9_cellsOf.1 ∈ lw_good := lw_good_in (List.mem_append_right _ (List.mem_of_getElem? (i := 797) (by decide +kernel))) (by decide +kernel)
theorem imX9_radius : Cond.instanceMethod mX9_radius.1 ∈ lw_good := lw_good_in (List.mem_append_right _ (List.mem_of_getElem? (i := 801) (by decide +kernel))) (by decide +kernel)
theorem imX9_draws : Cond.instanceMethod mX9_draws.1 ∈ lw_good := lw_good_in (List.mem_append_right _ (List.mem_of_getElem? (i := 804) (by decide +kernel))) (by decide +kernel)
theorem seX9_draws : Cond.selects mX9_draws.1.cls mX9_draws.1 mX9_draws.1 ∈ lw_good := lw_good_in (List.mem_append_right _ (List.mem_of_getElem? (i := 805) (by decide +kernel))) (by decide +kernel)
theorem imX9_goes : Cond.instanceMethod mX9_goes.1 ∈ lw_good := lw_good_in (List.mem_append_right _ (List.mem_of_getElem? (i := 809) (by decide +kernel))) (by decide +kernel)
theorem imX9_pours : Cond.instanceMethod mX9_pours.1 ∈ lw_good := lw_good_in (List.mem_append_right _ (List.mem_of_getElem? (i := 812) (by decide +kernel))) (by decide +kernel)
theorem seX9_pours : Cond.selects mX9_pours.1.cls mX9_pours.1 mX9_pours.1 ∈ lw_good := lw_good_in (List.mem_append_right _ (List.mem_of_getElem? (i := 813) (by decide +kernel))) (by decide +kernel)
theorem imX9_turnsOver : Cond.instanceMethod mX9_turnsOver.1 ∈ lw_good := lw_good_in (List.mem_append_right _ (List.mem_of_getElem? (i := 816) (by decide +kernel))) (by decide +kernel)
theorem seX9_turnsOver : Cond.selects mX9_turnsOver.1.cls mX9_turnsOver.1 mX9_turnsOver.1 ∈ lw_good := lw_good_in (List.mem_append_right _ (List.mem_of_getElem? (i := 817) (by decide +kernel))) (by decide +kernel)
theorem imX9_undo : Cond.instanceMethod mX9_undo.1 ∈ lw_good := lw_good_in (List.mem_append_right _ (List.mem_of_getElem? (i := 820) (by decide +kernel))) (by decide +kernel)
theorem seX9_undo : Cond.selects mX9_undo.1.cls mX9_undo.1 mX9_undo.1 ∈ lw_good := lw_good_in (List.mem_append_right _ (List.mem_of_getElem? (i := 821) (by decide +kernel))) (by decide +kernel)
theorem imX9_cask : Cond.instanceMethod mX9_cask.1 ∈ lw_good := lw_good_in (List.mem_append_right _ (List.mem_of_getElem? (i := 824) (by decide +kernel))) (by decide +kernel)
theorem seX9_cask : Cond.selects mX9_cask.1.cls mX9_cask.1 mX9_cask.1 ∈ lw_good := lw_good_in (List.mem_append_right _ (List.mem_of_getElem? (i := 825) (by decide +kernel))) (by decide +kernel)
theorem imX9_dipOf : Cond.instanceMethod mX9_dipOf.1 ∈ lw_good := lw_good_in (List.mem_append_right _ (List.mem_of_getElem? (i := 829) (by decide +kernel))) (by decide +kernel)
theorem imX9_strength : Cond.instanceMethod mX9_strength.1 ∈ lw_good := lw_good_in (List.mem_append_right _ (List.mem_of_getElem? (i := 834) (by decide +kernel))) (by decide +kernel)
theorem imX9_slice : Cond.instanceMethod mX9_slice.1 ∈ lw_good := lw_good_in (List.mem_append_right _ (List.mem_of_getElem? (i := 837) (by decide +kernel))) (by decide +kernel)
theorem seX9_slice : Cond.selects mX9_slice.1.cls mX9_slice.1 mX9_slice.1 ∈ lw_good := lw_good_in (List.mem_append_right _ (List.mem_of_getElem? (i := 838) (by decide +kernel))) (by decide +kernel)
theorem imX9_under : Cond.instanceMethod mX9_under.1 ∈ lw_good := lw_good_in (List.mem_append_right _ (List.mem_of_getElem? (i := 841) (by decide +kernel))) (by decide +kernel)
theorem seX9_under : Cond.selects mX9_under.1.cls mX9_under.1 mX9_under.1 ∈ lw_good := lw_good_in (List.mem_append_right _ (List.mem_of_getElem? (i := 842) (by decide +kernel))) (by decide +kernel)
theorem imX9_isHeight : Cond.instanceMethod mX9_isHeight.1 ∈ lw_good := lw_good_in (List.mem_append_right _ (List.mem_of_getElem? (i := 846) (by decide +kernel))) (by decide +kernel)
theorem imX9_dip : Cond.instanceMethod mX9_dip.1 ∈ lw_good := lw_good_in (List.mem_append_right _ (List.mem_of_getElem? (i := 849) (by decide +kernel))) (by decide +kernel)
theorem seX9_dip : Cond.selects mX9_dip.1.cls mX9_dip.1 mX9_dip.1 ∈ lw_good := lw_good_in (List.mem_append_right _ (List.mem_of_getElem? (i := 850) (by decide +kernel))) (by decide +kernel)
theorem imX9_stick : Cond.instanceMethod mX9_stick.1 ∈ lw_good := lw_good_in (List.mem_append_right _ (List.mem_of_getElem? (i := 853) (by decide +kernel))) (by decide +kernel)
theorem seX9_stick : Cond.selects mX9_stick.1.cls mX9_stick.1 mX9_stick.1 ∈ lw_good := lw_good_in (List.mem_append_right _ (List.mem_of_getElem? (i := 854) (by decide +kernel))) (by decide +kernel)
theorem imX9_known : Cond.instanceMethod mX9_known.1 ∈ lw_good := lw_good_in (List.mem_append_right _ (List.mem_of_getElem? (i := 857) (by decide +kernel))) (by decide +kernel)
theorem seX9_known : Cond.selects mX9_known.1.cls mX9_known.1 mX9_known.1 ∈ lw_good := lw_good_in (List.mem_append_right _ (List.mem_of_getElem? (i := 858) (by decide +kernel))) (by decide +kernel)
theorem imX9_shares : Cond.instanceMethod mX9_shares.1 ∈ lw_good := lw_good_in (List.mem_append_right _ (List.mem_of_getElem? (i := 861) (by decide +kernel))) (by decide +kernel)
theorem seX9_shares : Cond.selects mX9_shares.1.cls mX9_shares.1 mX9_shares.1 ∈ lw_good := lw_good_in (List.mem_append_right _ (List.mem_of_getElem? (i := 862) (by decide +kernel))) (by decide +kernel)
theorem imX9_mostBy : Cond.instanceMethod mX9_mostBy.1 ∈ lw_good := lw_good_in (List.mem_append_right _ (List.mem_of_getElem? (i := 866) (by decide +kernel))) (by decide +kernel)
theorem imX9_all : Cond.instanceMethod mX9_all.1 ∈ lw_good := lw_good_in (List.mem_append_right _ (List.mem_of_getElem? (i := 869) (by decide +kernel))) (by decide +kernel)
theorem seX9_all : Cond.selects mX9_all.1.cls mX9_all.1 mX9_all.1 ∈ lw_good := lw_good_in (List.mem_append_right _ (List.mem_of_getElem? (i := 870) (by decide +kernel))) (by decide +kernel)
theorem imX9_strongest : Cond.instanceMethod mX9_strongest.1 ∈ lw_good := lw_good_in (List.mem_append_right _ (List.mem_of_getElem? (i := 874) (by decide +kernel))) (by decide +kernel)
theorem imX9_mean : Cond.instanceMethod mX9_mean.1 ∈ lw_good := lw_good_in (List.mem_append_right _ (List.mem_of_getElem? (i := 878) (by decide +kernel))) (by decide +kernel)
theorem imX9_sees : Cond.instanceMethod mX9_sees.1 ∈ lw_good := lw_good_in (List.mem_append_right _ (List.mem_of_getElem? (i := 881) (by decide +kernel))) (by decide +kernel)
theorem seX9_sees : Cond.selects mX9_sees.1.cls mX9_sees.1 mX9_sees.1 ∈ lw_good := lw_good_in (List.mem_append_right _ (List.mem_of_getElem? (i := 882) (by decide +kernel))) (by decide +kernel)
theorem imX9_forget : Cond.instanceMethod mX9_forget.1 ∈ lw_good := lw_good_in (List.mem_append_right _ (List.mem_of_getElem? (i := 886) (by decide +kernel))) (by decide +kernel)
theorem seX9_forget : Cond.selects mX9_forget.1.cls mX9_forget.1 mX9_forget.1 ∈ lw_good := lw_good_in (List.mem_append_right _ (List.mem_of_getElem? (i := 887) (by decide +kernel))) (by decide +kernel)
theorem imX9_which : Cond.instanceMethod mX9_which.1 ∈ lw_good := lw_good_in (List.mem_append_right _ (List.mem_of_getElem? (i := 890) (by decide +kernel))) (by decide +kernel)
theorem seX9_which : Cond.selects mX9_which.1.cls mX9_which.1 mX9_which.1 ∈ lw_good := lw_good_in (List.mem_append_right _ (List.mem_of_getElem? (i := 891) (by decide +kernel))) (by decide +kernel)
theorem imX9_suspects : Cond.instanceMethod mX9_suspects.1 ∈ lw_good := lw_good_in (List.mem_append_right _ (List.mem_of_getElem? (i := 895) (by decide +kernel))) (by decide +kernel)
theorem imX9_ask : Cond.instanceMethod mX9_ask.1 ∈ lw_good := lw_good_in (List.mem_append_right _ (List.mem_of_getElem? (i := 898) (by decide +kernel))) (by decide +kernel)
theorem seX9_ask : Cond.selects mX9_ask.1.cls mX9_ask.1 mX9_ask.1 ∈ lw_good := lw_good_in (List.mem_append_right _ (List.mem_of_getElem? (i := 899) (by decide +kernel))) (by decide +kernel)
theorem imX9_laysDips : Cond.instanceMethod mX9_laysDips.1 ∈ lw_good := lw_good_in (List.mem_append_right _ (List.mem_of_getElem? (i := 903) (by decide +kernel))) (by decide +kernel)
theorem imX9_alike : Cond.instanceMethod mX9_alike.1 ∈ lw_good := lw_good_in (List.mem_append_right _ (List.mem_of_getElem? (i := 907) (by decide +kernel))) (by decide +kernel)
theorem imX9_keep : Cond.instanceMethod mX9_keep.1 ∈ lw_good := lw_good_in (List.mem_append_right _ (List.mem_of_getElem? (i := 910) (by decide +kernel))) (by decide +kernel)
theorem seX9_keep : Cond.selects mX9_keep.1.cls mX9_keep.1 mX9_keep.1 ∈ lw_good := lw_good_in (List.mem_append_right _ (List.mem_of_getElem? (i := 911) (by decide +kernel))) (by decide +kernel)
theorem imX9_back : Cond.instanceMethod mX9_back.1 ∈ lw_good := lw_good_in (List.mem_append_right _ (List.mem_of_getElem? (i := 914) (by decide +kernel))) (by decide +kernel)
theorem seX9_back : Cond.selects mX9_back.1.cls mX9_back.1 mX9_back.1 ∈ lw_good := lw_good_in (List.mem_append_right _ (List.mem_of_getElem? (i := 915) (by decide +kernel))) (by decide +kernel)
theorem imX9_count : Cond.instanceMethod mX9_count.1 ∈ lw_good := lw_good_in (List.mem_append_right _ (List.mem_of_getElem? (i := 918) (by decide +kernel))) (by decide +kernel)
theorem seX9_count : Cond.selects mX9_count.1.cls mX9_count.1 mX9_count.1 ∈ lw_good := lw_good_in (List.mem_append_right _ (List.mem_of_getElem? (i := 919) (by decide +kernel))) (by decide +kernel)
theorem imX9_sum : Cond.instanceMethod mX9_sum.1 ∈ lw_good := lw_good_in (List.mem_append_right _ (List.mem_of_getElem? (i := 923) (by decide +kernel))) (by decide +kernel)
theorem seX7_goesOn : Cond.selects mX7_goesOn.1.cls mX7_goesOn.1 mX7_goesOn.1 ∈ lw_good := lw_good_in (List.mem_append_left _ (List.mem_of_getElem? (i := 0) (by decide +kernel))) (by decide +kernel)
theorem seX7_putKind : Cond.selects mX7_putKind.1.cls mX7_putKind.1 mX7_putKind.1 ∈ lw_good := lw_good_in (List.mem_append_left _ (List.mem_of_getElem? (i := 1) (by decide +kernel))) (by decide +kernel)
theorem seX7_kindOfWord : Cond.selects mX7_kindOfWord.1.cls mX7_kindOfWord.1 mX7_kindOfWord.1 ∈ lw_good := lw_good_in (List.mem_append_left _ (List.mem_of_getElem? (i := 2) (by decide +kernel))) (by decide +kernel)
theorem seX7_isWord : Cond.selects mX7_isWord.1.cls mX7_isWord.1 mX7_isWord.1 ∈ lw_good := lw_good_in (List.mem_append_left _ (List.mem_of_getElem? (i := 3) (by decide +kernel))) (by decide +kernel)
theorem seX7_kindOfNumber : Cond.selects mX7_kindOfNumber.1.cls mX7_kindOfNumber.1 mX7_kindOfNumber.1 ∈ lw_good := lw_good_in (List.mem_append_left _ (List.mem_of_getElem? (i := 4) (by decide +kernel))) (by decide +kernel)
theorem seX7_valueOf : Cond.selects mX7_valueOf.1.cls mX7_valueOf.1 mX7_valueOf.1 ∈ lw_good := lw_good_in (List.mem_append_left _ (List.mem_of_getElem? (i := 5) (by decide +kernel))) (by decide +kernel)
theorem seX4_readItem : Cond.selects mX4_readItem.1.cls mX4_readItem.1 mX4_readItem.1 ∈ lw_good := lw_good_in (List.mem_append_left _ (List.mem_of_getElem? (i := 6) (by decide +kernel))) (by decide +kernel)
theorem seX4_readCask : Cond.selects mX4_readCask.1.cls mX4_readCask.1 mX4_readCask.1 ∈ lw_good := lw_good_in (List.mem_append_left _ (List.mem_of_getElem? (i := 7) (by decide +kernel))) (by decide +kernel)
theorem seX4_readNumber : Cond.selects mX4_readNumber.1.cls mX4_readNumber.1 mX4_readNumber.1 ∈ lw_good := lw_good_in (List.mem_append_left _ (List.mem_of_getElem? (i := 8) (by decide +kernel))) (by decide +kernel)
theorem seX4_step : Cond.selects mX4_step.1.cls mX4_step.1 mX4_step.1 ∈ lw_good := lw_good_in (List.mem_append_left _ (List.mem_of_getElem? (i := 9) (by decide +kernel))) (by decide +kernel)
theorem seX4_readItemEnd : Cond.selects mX4_readItemEnd.1.cls mX4_readItemEnd.1 mX4_readItemEnd.1 ∈ lw_good := lw_good_in (List.mem_append_left _ (List.mem_of_getElem? (i := 10) (by decide +kernel))) (by decide +kernel)
theorem seX4_readStands : Cond.selects mX4_readStands.1.cls mX4_readStands.1 mX4_readStands.1 ∈ lw_good := lw_good_in (List.mem_append_left _ (List.mem_of_getElem? (i := 11) (by decide +kernel))) (by decide +kernel)
theorem seX8_roomIn : Cond.selects mX8_roomIn.1.cls mX8_roomIn.1 mX8_roomIn.1 ∈ lw_good := lw_good_in (List.mem_append_left _ (List.mem_of_getElem? (i := 12) (by decide +kernel))) (by decide +kernel)
theorem seX8_levelsOf : Cond.selects mX8_levelsOf.1.cls mX8_levelsOf.1 mX8_levelsOf.1 ∈ lw_good := lw_good_in (List.mem_append_left _ (List.mem_of_getElem? (i := 13) (by decide +kernel))) (by decide +kernel)
theorem seX8_lyingLevelsOf : Cond.selects mX8_lyingLevelsOf.1.cls mX8_lyingLevelsOf.1 mX8_lyingLevelsOf.1 ∈ lw_good := lw_good_in (List.mem_append_left _ (List.mem_of_getElem? (i := 14) (by decide +kernel))) (by decide +kernel)
theorem seX2_addAhead : Cond.selects mX2_addAhead.1.cls mX2_addAhead.1 mX2_addAhead.1 ∈ lw_good := lw_good_in (List.mem_append_left _ (List.mem_of_getElem? (i := 15) (by decide +kernel))) (by decide +kernel)
theorem seX5_weigh : Cond.selects mX5_weigh.1.cls mX5_weigh.1 mX5_weigh.1 ∈ lw_good := lw_good_in (List.mem_append_left _ (List.mem_of_getElem? (i := 16) (by decide +kernel))) (by decide +kernel)
theorem seX8_startAsking : Cond.selects mX8_startAsking.1.cls mX8_startAsking.1 mX8_startAsking.1 ∈ lw_good := lw_good_in (List.mem_append_left _ (List.mem_of_getElem? (i := 17) (by decide +kernel))) (by decide +kernel)
theorem seX8_mostAlike : Cond.selects mX8_mostAlike.1.cls mX8_mostAlike.1 mX8_mostAlike.1 ∈ lw_good := lw_good_in (List.mem_append_left _ (List.mem_of_getElem? (i := 18) (by decide +kernel))) (by decide +kernel)
theorem seX8_raiseAskedDips : Cond.selects mX8_raiseAskedDips.1.cls mX8_raiseAskedDips.1 mX8_raiseAskedDips.1 ∈ lw_good := lw_good_in (List.mem_append_left _ (List.mem_of_getElem? (i := 19) (by decide +kernel))) (by decide +kernel)
theorem seX9_reads : Cond.selects mX9_reads.1.cls mX9_reads.1 mX9_reads.1 ∈ lw_good := lw_good_in (List.mem_append_left _ (List.mem_of_getElem? (i := 20) (by decide +kernel))) (by decide +kernel)
theorem seX9_steps : Cond.selects mX9_steps.1.cls mX9_steps.1 mX9_steps.1 ∈ lw_good := lw_good_in (List.mem_append_left _ (List.mem_of_getElem? (i := 21) (by decide +kernel))) (by decide +kernel)
theorem seX9_at : Cond.selects mX9_at.1.cls mX9_at.1 mX9_at.1 ∈ lw_good := lw_good_in (List.mem_append_left _ (List.mem_of_getElem? (i := 22) (by decide +kernel))) (by decide +kernel)
theorem seX9_takesFigures : Cond.selects mX9_takesFigures.1.cls mX9_takesFigures.1 mX9_takesFigures.1 ∈ lw_good := lw_good_in (List.mem_append_left _ (List.mem_of_getElem? (i := 23) (by decide +kernel))) (by decide +kernel)
theorem seX9_isCaskWord : Cond.selects mX9_isCaskWord.1.cls mX9_isCaskWord.1 mX9_isCaskWord.1 ∈ lw_good := lw_good_in (List.mem_append_left _ (List.mem_of_getElem? (i := 24) (by decide +kernel))) (by decide +kernel)
theorem seX9_isStandsWord : Cond.selects mX9_isStandsWord.1.cls mX9_isStandsWord.1 mX9_isStandsWord.1 ∈ lw_good := lw_good_in (List.mem_append_left _ (List.mem_of_getElem? (i := 25) (by decide +kernel))) (by decide +kernel)
theorem seX9_readsCask : Cond.selects mX9_readsCask.1.cls mX9_readsCask.1 mX9_readsCask.1 ∈ lw_good := lw_good_in (List.mem_append_left _ (List.mem_of_getElem? (i := 26) (by decide +kernel))) (by decide +kernel)
theorem seX9_takes : Cond.selects mX9_takes.1.cls mX9_takes.1 mX9_takes.1 ∈ lw_good := lw_good_in (List.mem_append_left _ (List.mem_of_getElem? (i := 27) (by decide +kernel))) (by decide +kernel)
theorem seX9_numberIn : Cond.selects mX9_numberIn.1.cls mX9_numberIn.1 mX9_numberIn.1 ∈ lw_good := lw_good_in (List.mem_append_left _ (List.mem_of_getElem? (i := 28) (by decide +kernel))) (by decide +kernel)
theorem seX9_readsStands : Cond.selects mX9_readsStands.1.cls mX9_readsStands.1 mX9_readsStands.1 ∈ lw_good := lw_good_in (List.mem_append_left _ (List.mem_of_getElem? (i := 29) (by decide +kernel))) (by decide +kernel)
theorem seX9_notes : Cond.selects mX9_notes.1.cls mX9_notes.1 mX9_notes.1 ∈ lw_good := lw_good_in (List.mem_append_left _ (List.mem_of_getElem? (i := 30) (by decide +kernel))) (by decide +kernel)
theorem seX9_isCask : Cond.selects mX9_isCask.1.cls mX9_isCask.1 mX9_isCask.1 ∈ lw_good := lw_good_in (List.mem_append_left _ (List.mem_of_getElem? (i := 31) (by decide +kernel))) (by decide +kernel)
theorem seX9_hold : Cond.selects mX9_hold.1.cls mX9_hold.1 mX9_hold.1 ∈ lw_good := lw_good_in (List.mem_append_left _ (List.mem_of_getElem? (i := 32) (by decide +kernel))) (by decide +kernel)
theorem seX9_laysNow : Cond.selects mX9_laysNow.1.cls mX9_laysNow.1 mX9_laysNow.1 ∈ lw_good := lw_good_in (List.mem_append_left _ (List.mem_of_getElem? (i := 33) (by decide +kernel))) (by decide +kernel)
theorem seX9_of : Cond.selects mX9_of.1.cls mX9_of.1 mX9_of.1 ∈ lw_good := lw_good_in (List.mem_append_left _ (List.mem_of_getElem? (i := 34) (by decide +kernel))) (by decide +kernel)
theorem seX9_lays : Cond.selects mX9_lays.1.cls mX9_lays.1 mX9_lays.1 ∈ lw_good := lw_good_in (List.mem_append_left _ (List.mem_of_getElem? (i := 35) (by decide +kernel))) (by decide +kernel)
theorem seX9_cellsOf : Cond.selects mX9_cellsOf.1.cls mX9_cellsOf.1 mX9_cellsOf.1 ∈ lw_good := lw_good_in (List.mem_append_left _ (List.mem_of_getElem? (i := 36) (by decide +kernel))) (by decide +kernel)
theorem seX9_radius : Cond.selects mX9_radius.1.cls mX9_radius.1 mX9_radius.1 ∈ lw_good := lw_good_in (List.mem_append_left _ (List.mem_of_getElem? (i := 37) (by decide +kernel))) (by decide +kernel)
theorem seX9_goes : Cond.selects mX9_goes.1.cls mX9_goes.1 mX9_goes.1 ∈ lw_good := lw_good_in (List.mem_append_left _ (List.mem_of_getElem? (i := 38) (by decide +kernel))) (by decide +kernel)
theorem seX9_dipOf : Cond.selects mX9_dipOf.1.cls mX9_dipOf.1 mX9_dipOf.1 ∈ lw_good := lw_good_in (List.mem_append_left _ (List.mem_of_getElem? (i := 39) (by decide +kernel))) (by decide +kernel)
theorem seX9_strength : Cond.selects mX9_strength.1.cls mX9_strength.1 mX9_strength.1 ∈ lw_good := lw_good_in (List.mem_append_left _ (List.mem_of_getElem? (i := 40) (by decide +kernel))) (by decide +kernel)
theorem seX9_isHeight : Cond.selects mX9_isHeight.1.cls mX9_isHeight.1 mX9_isHeight.1 ∈ lw_good := lw_good_in (List.mem_append_left _ (List.mem_of_getElem? (i := 41) (by decide +kernel))) (by decide +kernel)
theorem seX9_mostBy : Cond.selects mX9_mostBy.1.cls mX9_mostBy.1 mX9_mostBy.1 ∈ lw_good := lw_good_in (List.mem_append_left _ (List.mem_of_getElem? (i := 42) (by decide +kernel))) (by decide +kernel)
theorem seX9_strongest : Cond.selects mX9_strongest.1.cls mX9_strongest.1 mX9_strongest.1 ∈ lw_good := lw_good_in (List.mem_append_left _ (List.mem_of_getElem? (i := 43) (by decide +kernel))) (by decide +kernel)
theorem seX9_mean : Cond.selects mX9_mean.1.cls mX9_mean.1 mX9_mean.1 ∈ lw_good := lw_good_in (List.mem_append_left _ (List.mem_of_getElem? (i := 44) (by decide +kernel))) (by decide +kernel)
theorem seX9_suspects : Cond.selects mX9_suspects.1.cls mX9_suspects.1 mX9_suspects.1 ∈ lw_good := lw_good_in (List.mem_append_left _ (List.mem_of_getElem? (i := 45) (by decide +kernel))) (by decide +kernel)
theorem seX9_laysDips : Cond.selects mX9_laysDips.1.cls mX9_laysDips.1 mX9_laysDips.1 ∈ lw_good := lw_good_in (List.mem_append_left _ (List.mem_of_getElem? (i := 46) (by decide +kernel))) (by decide +kernel)
theorem seX9_alike : Cond.selects mX9_alike.1.cls mX9_alike.1 mX9_alike.1 ∈ lw_good := lw_good_in (List.mem_append_left _ (List.mem_of_getElem? (i := 47) (by decide +kernel))) (by decide +kernel)
theorem seX9_sum : Cond.selects mX9_sum.1.cls mX9_sum.1 mX9_sum.1 ∈ lw_good := lw_good_in (List.mem_append_left _ (List.mem_of_getElem? (i := 48) (by decide +kernel))) (by decide +kernel)
theorem iniL : Cond.initialized RL ∈ lw_good := lw_good_in (List.mem_append_right _ (List.mem_of_getElem? (i := 0) (by decide +kernel))) (by decide +kernel)
theorem iniX8 : Cond.initialized RX8 ∈ lw_good := lw_good_in (List.mem_append_right _ (List.mem_of_getElem? (i := 1) (by decide +kernel))) (by decide +kernel)
theorem iniX7 : Cond.initialized RX7 ∈ lw_good := lw_good_in (List.mem_append_right _ (List.mem_of_getElem? (i := 2) (by decide +kernel))) (by decide +kernel)
theorem iniX4 : Cond.initialized RX4 ∈ lw_good := lw_good_in (List.mem_append_right _ (List.mem_of_getElem? (i := 3) (by decide +kernel))) (by decide +kernel)
theorem iniX1 : Cond.initialized RX1 ∈ lw_good := lw_good_in (List.mem_append_right _ (List.mem_of_getElem? (i := 4) (by decide +kernel))) (by decide +kernel)
theorem iniX0 : Cond.initialized RX0 ∈ lw_good := lw_good_in (List.mem_append_right _ (List.mem_of_getElem? (i := 5) (by decide +kernel))) (by decide +kernel)
theorem iniX3 : Cond.initialized RX3 ∈ lw_good := lw_good_in (List.mem_append_right _ (List.mem_of_getElem? (i := 6) (by decide +kernel))) (by decide +kernel)
theorem iniX6 : Cond.initialized RX6 ∈ lw_good := lw_good_in (List.mem_append_right _ (List.mem_of_getElem? (i := 7) (by decide +kernel))) (by decide +kernel)
theorem iniX2 : Cond.initialized RX2 ∈ lw_good := lw_good_in (List.mem_append_right _ (List.mem_of_getElem? (i := 8) (by decide +kernel))) (by decide +kernel)
theorem iniX5 : Cond.initialized RX5 ∈ lw_good := lw_good_in (List.mem_append_right _ (List.mem_of_getElem? (i := 9) (by decide +kernel))) (by decide +kernel)
theorem iniX9 : Cond.initialized RX9 ∈ lw_good := lw_good_in (List.mem_append_right _ (List.mem_of_getElem? (i := 10) (by decide +kernel))) (by decide +kernel)
theorem iniJ0 : Cond.initialized RJ0 ∈ lw_good := lw_good_in (List.mem_append_right _ (List.mem_of_getElem? (i := 11) (by decide +kernel))) (by decide +kernel)
theorem iniJ1 : Cond.initialized RJ1 ∈ lw_good := lw_good_in (List.mem_append_right _ (List.mem_of_getElem? (i := 12) (by decide +kernel))) (by decide +kernel)
theorem iniJ3 : Cond.initialized RJ3 ∈ lw_good := lw_good_in (List.mem_append_right _ (List.mem_of_getElem? (i := 13) (by decide +kernel))) (by decide +kernel)
theorem iniJ2 : Cond.initialized RJ2 ∈ lw_good := lw_good_in (List.mem_append_right _ (List.mem_of_getElem? (i := 14) (by decide +kernel))) (by decide +kernel)
theorem iniJ9 : Cond.initialized RJ9 ∈ lw_good := lw_good_in (List.mem_append_right _ (List.mem_of_getElem? (i := 15) (by decide +kernel))) (by decide +kernel)
theorem iniJ6 : Cond.initialized RJ6 ∈ lw_good := lw_good_in (List.mem_append_right _ (List.mem_of_getElem? (i := 16) (by decide +kernel))) (by decide +kernel)
theorem cnL_7 : Cond.classLink RL 7 RX8 ∈ lw_good := lw_good_in (List.mem_append_right _ (List.mem_of_getElem? (i := 17) (by decide +kernel))) (by decide +kernel)
theorem isX8 : Cond.instantiable RX8 11 ∈ lw_good := lw_good_in (List.mem_append_right _ (List.mem_of_getElem? (i := 18) (by decide +kernel))) (by decide +kernel)
theorem mlL_9 : Cond.methodLink RL 9 mX8_init.1 ∈ lw_good := lw_good_in (List.mem_append_right _ (List.mem_of_getElem? (i := 19) (by decide +kernel))) (by decide +kernel)
theorem mlX8_3 : Cond.methodLink RX8 3 objectInit ∈ lw_good := lw_good_in (List.mem_append_right _ (List.mem_of_getElem? (i := 22) (by decide +kernel))) (by decide +kernel)
theorem cnX8_9 : Cond.classLink RX8 9 RX7 ∈ lw_good := lw_good_in (List.mem_append_right _ (List.mem_of_getElem? (i := 25) (by decide +kernel))) (by decide +kernel)
theorem isX7 : Cond.instantiable RX7 5 ∈ lw_good := lw_good_in (List.mem_append_right _ (List.mem_of_getElem? (i := 26) (by decide +kernel))) (by decide +kernel)
theorem mlX8_11 : Cond.methodLink RX8 11 mX7_init.1 ∈ lw_good := lw_good_in (List.mem_append_right _ (List.mem_of_getElem? (i := 27) (by decide +kernel))) (by decide +kernel)
theorem mlX7_3 : Cond.methodLink RX7 3 objectInit ∈ lw_good := lw_good_in (List.mem_append_right _ (List.mem_of_getElem? (i := 30) (by decide +kernel))) (by decide +kernel)
theorem fgX7_9 : sm_Fg RX7 9 7 0 := ⟨_, _, _, _, clX7, by decide, lw_good_in (List.mem_append_right _ (List.mem_of_getElem? (i := 31) (by decide +kernel))) (by decide +kernel)⟩
theorem flX7_9 : sm_Fl RX7 9 7 0 (.array .int) true := ⟨_, _, _, _, clX7, by decide, rfl, rfl, lw_good_in (List.mem_append_right _ (List.mem_of_getElem? (i := 31) (by decide +kernel))) (by decide +kernel), by decide +kernel⟩
theorem fgX7_24 : sm_Fg RX7 24 7 1 := ⟨_, _, _, _, clX7, by decide, lw_good_in (List.mem_append_right _ (List.mem_of_getElem? (i := 32) (by decide +kernel))) (by decide +kernel)⟩
theorem flX7_24 : sm_Fl RX7 24 7 1 (.int) false := ⟨_, _, _, _, clX7, by decide, rfl, rfl, lw_good_in (List.mem_append_right _ (List.mem_of_getElem? (i := 32) (by decide +kernel))) (by decide +kernel), by decide +kernel⟩
theorem fgX8_81 : sm_Fg RX8 81 7 1 := ⟨_, _, _, _, clX7, by decide, lw_good_in (List.mem_append_right _ (List.mem_of_getElem? (i := 33) (by decide +kernel))) (by decide +kernel)⟩
theorem flX8_81 : sm_Fl RX8 81 7 1 (.int) false := ⟨_, _, _, _, clX7, by decide, rfl, rfl, lw_good_in (List.mem_append_right _ (List.mem_of_getElem? (i := 33) (by decide +kernel))) (by decide +kernel), by decide +kernel⟩
theorem fgX7_15 : sm_Fg RX7 15 7 2 := ⟨_, _, _, _, clX7, by decide, lw_good_in (List.mem_append_right _ (List.mem_of_getElem? (i := 34) (by decide +kernel))) (by decide +kernel)⟩
theorem flX7_15 : sm_Fl RX7 15 7 2 (.array .int) true := ⟨_, _, _, _, clX7, by decide, rfl, rfl, lw_good_in (List.mem_append_right _ (List.mem_of_getElem? (i := 34) (by decide +kernel))) (by decide +kernel), by decide +kernel⟩
theorem fgX4_37 : sm_Fg RX4 37 7 2 := ⟨_, _, _, _, clX7, by decide, lw_good_in (List.mem_append_right _ (List.mem_of_getElem? (i := 35) (by decide +kernel))) (by decide +kernel)⟩
theorem fgX7_18 : sm_Fg RX7 18 7 3 := ⟨_, _, _, _, clX7, by decide, lw_good_in (List.mem_append_right _ (List.mem_of_getElem? (i := 36) (by decide +kernel))) (by decide +kernel)⟩
theorem flX7_18 : sm_Fl RX7 18 7 3 (.array .int) true := ⟨_, _, _, _, clX7, by decide, rfl, rfl, lw_good_in (List.mem_append_right _ (List.mem_of_getElem? (i := 36) (by decide +kernel))) (by decide +kernel), by decide +kernel⟩
theorem fgX4_45 : sm_Fg RX4 45 7 3 := ⟨_, _, _, _, clX7, by decide, lw_good_in (List.mem_append_right _ (List.mem_of_getElem? (i := 37) (by decide +kernel))) (by decide +kernel)⟩
theorem fgX7_21 : sm_Fg RX7 21 7 4 := ⟨_, _, _, _, clX7, by decide, lw_good_in (List.mem_append_right _ (List.mem_of_getElem? (i := 38) (by decide +kernel))) (by decide +kernel)⟩
theorem flX7_21 : sm_Fl RX7 21 7 4 (.array .int) true := ⟨_, _, _, _, clX7, by decide, rfl, rfl, lw_good_in (List.mem_append_right _ (List.mem_of_getElem? (i := 38) (by decide +kernel))) (by decide +kernel), by decide +kernel⟩
theorem fgX4_61 : sm_Fg RX4 61 7 4 := ⟨_, _, _, _, clX7, by decide, lw_good_in (List.mem_append_right _ (List.mem_of_getElem? (i := 39) (by decide +kernel))) (by decide +kernel)⟩
theorem ac_int : Cond.arrayClass .int ∈ lw_good := lw_good_in (List.mem_append_right _ (List.mem_of_getElem? (i := 51) (by decide +kernel))) (by decide +kernel)
theorem cnX8_16 : Cond.classLink RX8 16 RX4 ∈ lw_good := lw_good_in (List.mem_append_right _ (List.mem_of_getElem? (i := 52) (by decide +kernel))) (by decide +kernel)
theorem isX4 : Cond.instantiable RX4 4 ∈ lw_good := lw_good_in (List.mem_append_right _ (List.mem_of_getElem? (i := 53) (by decide +kernel))) (by decide +kernel)
theorem mlX8_18 : Cond.methodLink RX8 18 mX4_init.1 ∈ lw_good := lw_good_in (List.mem_append_right _ (List.mem_of_getElem? (i := 54) (by decide +kernel))) (by decide +kernel)
theorem mlX4_3 : Cond.methodLink RX4 3 objectInit ∈ lw_good := lw_good_in (List.mem_append_right _ (List.mem_of_getElem? (i := 57) (by decide +kernel))) (by decide +kernel)
theorem cnX4_15 : Cond.classLink RX4 15 RX1 ∈ lw_good := lw_good_in (List.mem_append_right _ (List.mem_of_getElem? (i := 58) (by decide +kernel))) (by decide +kernel)
theorem isX1 : Cond.instantiable RX1 2 ∈ lw_good := lw_good_in (List.mem_append_right _ (List.mem_of_getElem? (i := 59) (by decide +kernel))) (by decide +kernel)
theorem mlX4_17 : Cond.methodLink RX4 17 mX1_init.1 ∈ lw_good := lw_good_in (List.mem_append_right _ (List.mem_of_getElem? (i := 60) (by decide +kernel))) (by decide +kernel)
theorem mlX1_3 : Cond.methodLink RX1 3 objectInit ∈ lw_good := lw_good_in (List.mem_append_right _ (List.mem_of_getElem? (i := 63) (by decide +kernel))) (by decide +kernel)
theorem cnX1_9 : Cond.classLink RX1 9 RX0 ∈ lw_good := lw_good_in (List.mem_append_right _ (List.mem_of_getElem? (i := 64) (by decide +kernel))) (by decide +kernel)
theorem isX0 : Cond.instantiable RX0 6 ∈ lw_good := lw_good_in (List.mem_append_right _ (List.mem_of_getElem? (i := 66) (by decide +kernel))) (by decide +kernel)
theorem mlX0_1 : Cond.methodLink RX0 1 objectInit ∈ lw_good := lw_good_in (List.mem_append_right _ (List.mem_of_getElem? (i := 70) (by decide +kernel))) (by decide +kernel)
theorem fgX0_7 : sm_Fg RX0 7 0 0 := ⟨_, _, _, _, clX0, by decide, lw_good_in (List.mem_append_right _ (List.mem_of_getElem? (i := 71) (by decide +kernel))) (by decide +kernel)⟩
theorem flX0_7 : sm_Fl RX0 7 0 0 (.int) false := ⟨_, _, _, _, clX0, by decide, rfl, rfl, lw_good_in (List.mem_append_right _ (List.mem_of_getElem? (i := 71) (by decide +kernel))) (by decide +kernel), by decide +kernel⟩
theorem fgX2_23 : sm_Fg RX2 23 0 0 := ⟨_, _, _, _, clX0, by decide, lw_good_in (List.mem_append_right _ (List.mem_of_getElem? (i := 72) (by decide +kernel))) (by decide +kernel)⟩
theorem flX2_23 : sm_Fl RX2 23 0 0 (.int) false := ⟨_, _, _, _, clX0, by decide, rfl, rfl, lw_good_in (List.mem_append_right _ (List.mem_of_getElem? (i := 72) (by decide +kernel))) (by decide +kernel), by decide +kernel⟩
theorem fgX8_140 : sm_Fg RX8 140 0 0 := ⟨_, _, _, _, clX0, by decide, lw_good_in (List.mem_append_right _ (List.mem_of_getElem? (i := 73) (by decide +kernel))) (by decide +kernel)⟩
theorem flX8_140 : sm_Fl RX8 140 0 0 (.int) false := ⟨_, _, _, _, clX0, by decide, rfl, rfl, lw_good_in (List.mem_append_right _ (List.mem_of_getElem? (i := 73) (by decide +kernel))) (by decide +kernel), by decide +kernel⟩
theorem fgX0_13 : sm_Fg RX0 13 0 1 := ⟨_, _, _, _, clX0, by decide, lw_good_in (List.mem_append_right _ (List.mem_of_getElem? (i := 74) (by decide +kernel))) (by decide +kernel)⟩
theorem flX0_13 : sm_Fl RX0 13 0 1 (.int) false := ⟨_, _, _, _, clX0, by decide, rfl, rfl, lw_good_in (List.mem_append_right _ (List.mem_of_getElem? (i := 74) (by decide +kernel))) (by decide +kernel), by decide +kernel⟩
theorem fgX2_29 : sm_Fg RX2 29 0 1 := ⟨_, _, _, _, clX0, by decide, lw_good_in (List.mem_append_right _ (List.mem_of_getElem? (i := 75) (by decide +kernel))) (by decide +kernel)⟩
theorem flX2_29 : sm_Fl RX2 29 0 1 (.int) false := ⟨_, _, _, _, clX0, by decide, rfl, rfl, lw_good_in (List.mem_append_right _ (List.mem_of_getElem? (i := 75) (by decide +kernel))) (by decide +kernel), by decide +kernel⟩
theorem fgX8_143 : sm_Fg RX8 143 0 1 := ⟨_, _, _, _, clX0, by decide, lw_good_in (List.mem_append_right _ (List.mem_of_getElem? (i := 76) (by decide +kernel))) (by decide +kernel)⟩
theorem flX8_143 : sm_Fl RX8 143 0 1 (.int) false := ⟨_, _, _, _, clX0, by decide, rfl, rfl, lw_good_in (List.mem_append_right _ (List.mem_of_getElem? (i := 76) (by decide +kernel))) (by decide +kernel), by decide +kernel⟩
theorem fgX0_16 : sm_Fg RX0 16 0 2 := ⟨_, _, _, _, clX0, by decide, lw_good_in (List.mem_append_right _ (List.mem_of_getElem? (i := 77) (by decide +kernel))) (by decide +kernel)⟩
theorem flX0_16 : sm_Fl RX0 16 0 2 (.int) false := ⟨_, _, _, _, clX0, by decide, rfl, rfl, lw_good_in (List.mem_append_right _ (List.mem_of_getElem? (i := 77) (by decide +kernel))) (by decide +kernel), by decide +kernel⟩
theorem fgX2_33 : sm_Fg RX2 33 0 2 := ⟨_, _, _, _, clX0, by decide, lw_good_in (List.mem_append_right _ (List.mem_of_getElem? (i := 78) (by decide +kernel))) (by decide +kernel)⟩
theorem flX2_33 : sm_Fl RX2 33 0 2 (.int) false := ⟨_, _, _, _, clX0, by decide, rfl, rfl, lw_good_in (List.mem_append_right _ (List.mem_of_getElem? (i := 78) (by decide +kernel))) (by decide +kernel), by decide +kernel⟩
theorem fgX8_146 : sm_Fg RX8 146 0 2 := ⟨_, _, _, _, clX0, by decide, lw_good_in (List.mem_append_right _ (List.mem_of_getElem? (i := 79) (by decide +kernel))) (by decide +kernel)⟩
theorem flX8_146 : sm_Fl RX8 146 0 2 (.int) false := ⟨_, _, _, _, clX0, by decide, rfl, rfl, lw_good_in (List.mem_append_right _ (List.mem_of_getElem? (i := 79) (by decide +kernel))) (by decide +kernel), by decide +kernel⟩
theorem fgX0_19 : sm_Fg RX0 19 0 3 := ⟨_, _, _, _, clX0, by decide, lw_good_in (List.mem_append_right _ (List.mem_of_getElem? (i := 80) (by decide +kernel))) (by decide +kernel)⟩
theorem flX0_19 : sm_Fl RX0 19 0 3 (.boolean) false := ⟨_, _, _, _, clX0, by decide, rfl, rfl, lw_good_in (List.mem_append_right _ (List.mem_of_getElem? (i := 80) (by decide +kernel))) (by decide +kernel), by decide +kernel⟩
theorem fgX4_79 : sm_Fg RX4 79 0 3 := ⟨_, _, _, _, clX0, by decide, lw_good_in (List.mem_append_right _ (List.mem_of_getElem? (i := 81) (by decide +kernel))) (by decide +kernel)⟩
theorem flX4_79 : sm_Fl RX4 79 0 3 (.boolean) false := ⟨_, _, _, _, clX0, by decide, rfl, rfl, lw_good_in (List.mem_append_right _ (List.mem_of_getElem? (i := 81) (by decide +kernel))) (by decide +kernel), by decide +kernel⟩
theorem fgX8_129 : sm_Fg RX8 129 0 3 := ⟨_, _, _, _, clX0, by decide, lw_good_in (List.mem_append_right _ (List.mem_of_getElem? (i := 82) (by decide +kernel))) (by decide +kernel)⟩
theorem flX8_129 : sm_Fl RX8 129 0 3 (.boolean) false := ⟨_, _, _, _, clX0, by decide, rfl, rfl, lw_good_in (List.mem_append_right _ (List.mem_of_getElem? (i := 82) (by decide +kernel))) (by decide +kernel), by decide +kernel⟩
theorem fgX0_23 : sm_Fg RX0 23 0 4 := ⟨_, _, _, _, clX0, by decide, lw_good_in (List.mem_append_right _ (List.mem_of_getElem? (i := 83) (by decide +kernel))) (by decide +kernel)⟩
theorem flX0_23 : sm_Fl RX0 23 0 4 (.int) false := ⟨_, _, _, _, clX0, by decide, rfl, rfl, lw_good_in (List.mem_append_right _ (List.mem_of_getElem? (i := 83) (by decide +kernel))) (by decide +kernel), by decide +kernel⟩
theorem fgX8_123 : sm_Fg RX8 123 0 4 := ⟨_, _, _, _, clX0, by decide, lw_good_in (List.mem_append_right _ (List.mem_of_getElem? (i := 84) (by decide +kernel))) (by decide +kernel)⟩
theorem flX8_123 : sm_Fl RX8 123 0 4 (.int) false := ⟨_, _, _, _, clX0, by decide, rfl, rfl, lw_good_in (List.mem_append_right _ (List.mem_of_getElem? (i := 84) (by decide +kernel))) (by decide +kernel), by decide +kernel⟩
theorem fgX1_30 : sm_Fg RX1 30 0 4 := ⟨_, _, _, _, clX0, by decide, lw_good_in (List.mem_append_right _ (List.mem_of_getElem? (i := 85) (by decide +kernel))) (by decide +kernel)⟩
theorem flX1_30 : sm_Fl RX1 30 0 4 (.int) false := ⟨_, _, _, _, clX0, by decide, rfl, rfl, lw_good_in (List.mem_append_right _ (List.mem_of_getElem? (i := 85) (by decide +kernel))) (by decide +kernel), by decide +kernel⟩
theorem fgX0_26 : sm_Fg RX0 26 0 5 := ⟨_, _, _, _, clX0, by decide, lw_good_in (List.mem_append_right _ (List.mem_of_getElem? (i := 86) (by decide +kernel))) (by decide +kernel)⟩
theorem flX0_26 : sm_Fl RX0 26 0 5 (.int) false := ⟨_, _, _, _, clX0, by decide, rfl, rfl, lw_good_in (List.mem_append_right _ (List.mem_of_getElem? (i := 86) (by decide +kernel))) (by decide +kernel), by decide +kernel⟩
theorem fgX1_33 : sm_Fg RX1 33 0 5 := ⟨_, _, _, _, clX0, by decide, lw_good_in (List.mem_append_right _ (List.mem_of_getElem? (i := 87) (by decide +kernel))) (by decide +kernel)⟩
theorem flX1_33 : sm_Fl RX1 33 0 5 (.int) false := ⟨_, _, _, _, clX0, by decide, rfl, rfl, lw_good_in (List.mem_append_right _ (List.mem_of_getElem? (i := 87) (by decide +kernel))) (by decide +kernel), by decide +kernel⟩
theorem fgX8_156 : sm_Fg RX8 156 0 5 := ⟨_, _, _, _, clX0, by decide, lw_good_in (List.mem_append_right _ (List.mem_of_getElem? (i := 88) (by decide +kernel))) (by decide +kernel)⟩
theorem flX8_156 : sm_Fl RX8 156 0 5 (.int) false := ⟨_, _, _, _, clX0, by decide, rfl, rfl, lw_good_in (List.mem_append_right _ (List.mem_of_getElem? (i := 88) (by decide +kernel))) (by decide +kernel), by decide +kernel⟩
theorem fgX1_11 : sm_Fg RX1 11 1 0 := ⟨_, _, _, _, clX1, by decide, lw_good_in (List.mem_append_right _ (List.mem_of_getElem? (i := 102) (by decide +kernel))) (by decide +kernel)⟩
theorem flX1_11 : sm_Fl RX1 11 1 0 (.array (.object "CaskGauge$Cask")) true := ⟨_, _, _, _, clX1, by decide, rfl, rfl, lw_good_in (List.mem_append_right _ (List.mem_of_getElem? (i := 102) (by decide +kernel))) (by decide +kernel), by decide +kernel⟩
theorem fgX8_113 : sm_Fg RX8 113 1 0 := ⟨_, _, _, _, clX1, by decide, lw_good_in (List.mem_append_right _ (List.mem_of_getElem? (i := 103) (by decide +kernel))) (by decide +kernel)⟩
theorem fgX4_75 : sm_Fg RX4 75 1 0 := ⟨_, _, _, _, clX1, by decide, lw_good_in (List.mem_append_right _ (List.mem_of_getElem? (i := 104) (by decide +kernel))) (by decide +kernel)⟩
theorem fgX1_18 : sm_Fg RX1 18 1 1 := ⟨_, _, _, _, clX1, by decide, lw_good_in (List.mem_append_right _ (List.mem_of_getElem? (i := 105) (by decide +kernel))) (by decide +kernel)⟩
theorem flX1_18 : sm_Fl RX1 18 1 1 (.int) false := ⟨_, _, _, _, clX1, by decide, rfl, rfl, lw_good_in (List.mem_append_right _ (List.mem_of_getElem? (i := 105) (by decide +kernel))) (by decide +kernel), by decide +kernel⟩
theorem fgX4_48 : sm_Fg RX4 48 1 1 := ⟨_, _, _, _, clX1, by decide, lw_good_in (List.mem_append_right _ (List.mem_of_getElem? (i := 106) (by decide +kernel))) (by decide +kernel)⟩
theorem flX4_48 : sm_Fl RX4 48 1 1 (.int) false := ⟨_, _, _, _, clX1, by decide, rfl, rfl, lw_good_in (List.mem_append_right _ (List.mem_of_getElem? (i := 106) (by decide +kernel))) (by decide +kernel), by decide +kernel⟩
theorem fgX8_216 : sm_Fg RX8 216 1 1 := ⟨_, _, _, _, clX1, by decide, lw_good_in (List.mem_append_right _ (List.mem_of_getElem? (i := 107) (by decide +kernel))) (by decide +kernel)⟩
theorem flX8_216 : sm_Fl RX8 216 1 1 (.int) false := ⟨_, _, _, _, clX1, by decide, rfl, rfl, lw_good_in (List.mem_append_right _ (List.mem_of_getElem? (i := 107) (by decide +kernel))) (by decide +kernel), by decide +kernel⟩
theorem fgX4_18 : sm_Fg RX4 18 4 0 := ⟨_, _, _, _, clX4, by decide, lw_good_in (List.mem_append_right _ (List.mem_of_getElem? (i := 113) (by decide +kernel))) (by decide +kernel)⟩
theorem flX4_18 : sm_Fl RX4 18 4 0 (.object "CaskGauge$Cellar") true := ⟨_, _, _, _, clX4, by decide, rfl, rfl, lw_good_in (List.mem_append_right _ (List.mem_of_getElem? (i := 113) (by decide +kernel))) (by decide +kernel), by decide +kernel⟩
theorem fgX8_97 : sm_Fg RX8 97 4 0 := ⟨_, _, _, _, clX4, by decide, lw_good_in (List.mem_append_right _ (List.mem_of_getElem? (i := 114) (by decide +kernel))) (by decide +kernel)⟩
theorem fgX4_30 : sm_Fg RX4 30 4 1 := ⟨_, _, _, _, clX4, by decide, lw_good_in (List.mem_append_right _ (List.mem_of_getElem? (i := 115) (by decide +kernel))) (by decide +kernel)⟩
theorem flX4_30 : sm_Fl RX4 30 4 1 (.int) false := ⟨_, _, _, _, clX4, by decide, rfl, rfl, lw_good_in (List.mem_append_right _ (List.mem_of_getElem? (i := 115) (by decide +kernel))) (by decide +kernel), by decide +kernel⟩
theorem fgX8_103 : sm_Fg RX8 103 4 1 := ⟨_, _, _, _, clX4, by decide, lw_good_in (List.mem_append_right _ (List.mem_of_getElem? (i := 116) (by decide +kernel))) (by decide +kernel)⟩
theorem flX8_103 : sm_Fl RX8 103 4 1 (.int) false := ⟨_, _, _, _, clX4, by decide, rfl, rfl, lw_good_in (List.mem_append_right _ (List.mem_of_getElem? (i := 116) (by decide +kernel))) (by decide +kernel), by decide +kernel⟩
theorem fgX4_9 : sm_Fg RX4 9 4 2 := ⟨_, _, _, _, clX4, by decide, lw_good_in (List.mem_append_right _ (List.mem_of_getElem? (i := 117) (by decide +kernel))) (by decide +kernel)⟩
theorem flX4_9 : sm_Fl RX4 9 4 2 (.object "CaskGauge$Text") true := ⟨_, _, _, _, clX4, by decide, rfl, rfl, lw_good_in (List.mem_append_right _ (List.mem_of_getElem? (i := 117) (by decide +kernel))) (by decide +kernel), by decide +kernel⟩
theorem fgX4_34 : sm_Fg RX4 34 4 3 := ⟨_, _, _, _, clX4, by decide, lw_good_in (List.mem_append_right _ (List.mem_of_getElem? (i := 118) (by decide +kernel))) (by decide +kernel)⟩
theorem flX4_34 : sm_Fl RX4 34 4 3 (.int) false := ⟨_, _, _, _, clX4, by decide, rfl, rfl, lw_good_in (List.mem_append_right _ (List.mem_of_getElem? (i := 118) (by decide +kernel))) (by decide +kernel), by decide +kernel⟩
theorem cnX8_25 : Cond.classLink RX8 25 RX1 ∈ lw_good := lw_good_in (List.mem_append_right _ (List.mem_of_getElem? (i := 128) (by decide +kernel))) (by decide +kernel)
theorem mlX8_27 : Cond.methodLink RX8 27 mX1_init.1 ∈ lw_good := lw_good_in (List.mem_append_right _ (List.mem_of_getElem? (i := 129) (by decide +kernel))) (by decide +kernel)
theorem cnX8_32 : Cond.classLink RX8 32 RX3 ∈ lw_good := lw_good_in (List.mem_append_right _ (List.mem_of_getElem? (i := 130) (by decide +kernel))) (by decide +kernel)
theorem isX3 : Cond.instantiable RX3 3 ∈ lw_good := lw_good_in (List.mem_append_right _ (List.mem_of_getElem? (i := 131) (by decide +kernel))) (by decide +kernel)
theorem mlX8_34 : Cond.methodLink RX8 34 mX3_init.1 ∈ lw_good := lw_good_in (List.mem_append_right _ (List.mem_of_getElem? (i := 132) (by decide +kernel))) (by decide +kernel)
theorem mlX3_3 : Cond.methodLink RX3 3 objectInit ∈ lw_good := lw_good_in (List.mem_append_right _ (List.mem_of_getElem? (i := 135) (by decide +kernel))) (by decide +kernel)
theorem cnX3_9 : Cond.classLink RX3 9 RX1 ∈ lw_good := lw_good_in (List.mem_append_right _ (List.mem_of_getElem? (i := 136) (by decide +kernel))) (by decide +kernel)
theorem mlX3_17 : Cond.methodLink RX3 17 mX1_init.1 ∈ lw_good := lw_good_in (List.mem_append_right _ (List.mem_of_getElem? (i := 138) (by decide +kernel))) (by decide +kernel)
theorem fgX3_11 : sm_Fg RX3 11 3 0 := ⟨_, _, _, _, clX3, by decide, lw_good_in (List.mem_append_right _ (List.mem_of_getElem? (i := 139) (by decide +kernel))) (by decide +kernel)⟩
theorem flX3_11 : sm_Fl RX3 11 3 0 (.array (.object "CaskGauge$Cellar")) true := ⟨_, _, _, _, clX3, by decide, rfl, rfl, lw_good_in (List.mem_append_right _ (List.mem_of_getElem? (i := 139) (by decide +kernel))) (by decide +kernel), by decide +kernel⟩
theorem fgX3_18 : sm_Fg RX3 18 3 1 := ⟨_, _, _, _, clX3, by decide, lw_good_in (List.mem_append_right _ (List.mem_of_getElem? (i := 140) (by decide +kernel))) (by decide +kernel)⟩
theorem flX3_18 : sm_Fl RX3 18 3 1 (.int) false := ⟨_, _, _, _, clX3, by decide, rfl, rfl, lw_good_in (List.mem_append_right _ (List.mem_of_getElem? (i := 140) (by decide +kernel))) (by decide +kernel), by decide +kernel⟩
theorem fgX3_26 : sm_Fg RX3 26 3 2 := ⟨_, _, _, _, clX3, by decide, lw_good_in (List.mem_append_right _ (List.mem_of_getElem? (i := 141) (by decide +kernel))) (by decide +kernel)⟩
theorem flX3_26 : sm_Fl RX3 26 3 2 (.int) false := ⟨_, _, _, _, clX3, by decide, rfl, rfl, lw_good_in (List.mem_append_right _ (List.mem_of_getElem? (i := 141) (by decide +kernel))) (by decide +kernel), by decide +kernel⟩
theorem fgX8_137 : sm_Fg RX8 137 3 2 := ⟨_, _, _, _, clX3, by decide, lw_good_in (List.mem_append_right _ (List.mem_of_getElem? (i := 142) (by decide +kernel))) (by decide +kernel)⟩
theorem flX8_137 : sm_Fl RX8 137 3 2 (.int) false := ⟨_, _, _, _, clX3, by decide, rfl, rfl, lw_good_in (List.mem_append_right _ (List.mem_of_getElem? (i := 142) (by decide +kernel))) (by decide +kernel), by decide +kernel⟩
theorem cnX8_47 : Cond.classLink RX8 47 RX6 ∈ lw_good := lw_good_in (List.mem_append_right _ (List.mem_of_getElem? (i := 150) (by decide +kernel))) (by decide +kernel)
theorem isX6 : Cond.instantiable RX6 3 ∈ lw_good := lw_good_in (List.mem_append_right _ (List.mem_of_getElem? (i := 151) (by decide +kernel))) (by decide +kernel)
theorem mlX8_49 : Cond.methodLink RX8 49 mX6_init.1 ∈ lw_good := lw_good_in (List.mem_append_right _ (List.mem_of_getElem? (i := 152) (by decide +kernel))) (by decide +kernel)
theorem mlX6_3 : Cond.methodLink RX6 3 objectInit ∈ lw_good := lw_good_in (List.mem_append_right _ (List.mem_of_getElem? (i := 155) (by decide +kernel))) (by decide +kernel)
theorem fgX6_9 : sm_Fg RX6 9 6 0 := ⟨_, _, _, _, clX6, by decide, lw_good_in (List.mem_append_right _ (List.mem_of_getElem? (i := 156) (by decide +kernel))) (by decide +kernel)⟩
theorem flX6_9 : sm_Fl RX6 9 6 0 (.array .int) true := ⟨_, _, _, _, clX6, by decide, rfl, rfl, lw_good_in (List.mem_append_right _ (List.mem_of_getElem? (i := 156) (by decide +kernel))) (by decide +kernel), by decide +kernel⟩
theorem fgX6_15 : sm_Fg RX6 15 6 1 := ⟨_, _, _, _, clX6, by decide, lw_good_in (List.mem_append_right _ (List.mem_of_getElem? (i := 157) (by decide +kernel))) (by decide +kernel)⟩
theorem flX6_15 : sm_Fl RX6 15 6 1 (.array .int) true := ⟨_, _, _, _, clX6, by decide, rfl, rfl, lw_good_in (List.mem_append_right _ (List.mem_of_getElem? (i := 157) (by decide +kernel))) (by decide +kernel), by decide +kernel⟩
theorem fgX6_18 : sm_Fg RX6 18 6 2 := ⟨_, _, _, _, clX6, by decide, lw_good_in (List.mem_append_right _ (List.mem_of_getElem? (i := 158) (by decide +kernel))) (by decide +kernel)⟩
theorem flX6_18 : sm_Fl RX6 18 6 2 (.int) false := ⟨_, _, _, _, clX6, by decide, rfl, rfl, lw_good_in (List.mem_append_right _ (List.mem_of_getElem? (i := 158) (by decide +kernel))) (by decide +kernel), by decide +kernel⟩
theorem fgX8_215 : sm_Fg RX8 215 6 2 := ⟨_, _, _, _, clX6, by decide, lw_good_in (List.mem_append_right _ (List.mem_of_getElem? (i := 159) (by decide +kernel))) (by decide +kernel)⟩
theorem flX8_215 : sm_Fl RX8 215 6 2 (.int) false := ⟨_, _, _, _, clX6, by decide, rfl, rfl, lw_good_in (List.mem_append_right _ (List.mem_of_getElem? (i := 159) (by decide +kernel))) (by decide +kernel), by decide +kernel⟩
theorem ac_boolean : Cond.arrayClass .boolean ∈ lw_good := lw_good_in (List.mem_append_right _ (List.mem_of_getElem? (i := 167) (by decide +kernel))) (by decide +kernel)
theorem cnX8_54 : Cond.classLink RX8 54 RX2 ∈ lw_good := lw_good_in (List.mem_append_right _ (List.mem_of_getElem? (i := 168) (by decide +kernel))) (by decide +kernel)
theorem isX2 : Cond.instantiable RX2 6 ∈ lw_good := lw_good_in (List.mem_append_right _ (List.mem_of_getElem? (i := 170) (by decide +kernel))) (by decide +kernel)
theorem mlX8_63 : Cond.methodLink RX8 63 mX2_init.1 ∈ lw_good := lw_good_in (List.mem_append_right _ (List.mem_of_getElem? (i := 171) (by decide +kernel))) (by decide +kernel)
theorem mlX2_3 : Cond.methodLink RX2 3 objectInit ∈ lw_good := lw_good_in (List.mem_append_right _ (List.mem_of_getElem? (i := 174) (by decide +kernel))) (by decide +kernel)
theorem fgX2_9 : sm_Fg RX2 9 2 0 := ⟨_, _, _, _, clX2, by decide, lw_good_in (List.mem_append_right _ (List.mem_of_getElem? (i := 175) (by decide +kernel))) (by decide +kernel)⟩
theorem flX2_9 : sm_Fl RX2 9 2 0 (.boolean) true := ⟨_, _, _, _, clX2, by decide, rfl, rfl, lw_good_in (List.mem_append_right _ (List.mem_of_getElem? (i := 175) (by decide +kernel))) (by decide +kernel), by decide +kernel⟩
theorem fgX2_15 : sm_Fg RX2 15 2 1 := ⟨_, _, _, _, clX2, by decide, lw_good_in (List.mem_append_right _ (List.mem_of_getElem? (i := 176) (by decide +kernel))) (by decide +kernel)⟩
theorem flX2_15 : sm_Fl RX2 15 2 1 (.array .int) true := ⟨_, _, _, _, clX2, by decide, rfl, rfl, lw_good_in (List.mem_append_right _ (List.mem_of_getElem? (i := 176) (by decide +kernel))) (by decide +kernel), by decide +kernel⟩
theorem fgX2_19 : sm_Fg RX2 19 2 2 := ⟨_, _, _, _, clX2, by decide, lw_good_in (List.mem_append_right _ (List.mem_of_getElem? (i := 177) (by decide +kernel))) (by decide +kernel)⟩
theorem flX2_19 : sm_Fl RX2 19 2 2 (.int) false := ⟨_, _, _, _, clX2, by decide, rfl, rfl, lw_good_in (List.mem_append_right _ (List.mem_of_getElem? (i := 177) (by decide +kernel))) (by decide +kernel), by decide +kernel⟩
theorem fgX2_26 : sm_Fg RX2 26 2 3 := ⟨_, _, _, _, clX2, by decide, lw_good_in (List.mem_append_right _ (List.mem_of_getElem? (i := 178) (by decide +kernel))) (by decide +kernel)⟩
theorem flX2_26 : sm_Fl RX2 26 2 3 (.int) false := ⟨_, _, _, _, clX2, by decide, rfl, rfl, lw_good_in (List.mem_append_right _ (List.mem_of_getElem? (i := 178) (by decide +kernel))) (by decide +kernel), by decide +kernel⟩
theorem fgX2_30 : sm_Fg RX2 30 2 4 := ⟨_, _, _, _, clX2, by decide, lw_good_in (List.mem_append_right _ (List.mem_of_getElem? (i := 179) (by decide +kernel))) (by decide +kernel)⟩
theorem flX2_30 : sm_Fl RX2 30 2 4 (.int) false := ⟨_, _, _, _, clX2, by decide, rfl, rfl, lw_good_in (List.mem_append_right _ (List.mem_of_getElem? (i := 179) (by decide +kernel))) (by decide +kernel), by decide +kernel⟩
theorem fgX2_40 : sm_Fg RX2 40 2 5 := ⟨_, _, _, _, clX2, by decide, lw_good_in (List.mem_append_right _ (List.mem_of_getElem? (i := 180) (by decide +kernel))) (by decide +kernel)⟩
theorem flX2_40 : sm_Fl RX2 40 2 5 (.int) false := ⟨_, _, _, _, clX2, by decide, rfl, rfl, lw_good_in (List.mem_append_right _ (List.mem_of_getElem? (i := 180) (by decide +kernel))) (by decide +kernel), by decide +kernel⟩
theorem cnX8_66 : Cond.classLink RX8 66 RX5 ∈ lw_good := lw_good_in (List.mem_append_right _ (List.mem_of_getElem? (i := 194) (by decide +kernel))) (by decide +kernel)
theorem isX5 : Cond.instantiable RX5 5 ∈ lw_good := lw_good_in (List.mem_append_right _ (List.mem_of_getElem? (i := 195) (by decide +kernel))) (by decide +kernel)
theorem mlX5_3 : Cond.methodLink RX5 3 objectInit ∈ lw_good := lw_good_in (List.mem_append_right _ (List.mem_of_getElem? (i := 199) (by decide +kernel))) (by decide +kernel)
theorem fgX5_9 : sm_Fg RX5 9 5 0 := ⟨_, _, _, _, clX5, by decide, lw_good_in (List.mem_append_right _ (List.mem_of_getElem? (i := 200) (by decide +kernel))) (by decide +kernel)⟩
theorem flX5_9 : sm_Fl RX5 9 5 0 (.int) false := ⟨_, _, _, _, clX5, by decide, rfl, rfl, lw_good_in (List.mem_append_right _ (List.mem_of_getElem? (i := 200) (by decide +kernel))) (by decide +kernel), by decide +kernel⟩
theorem fgX8_202 : sm_Fg RX8 202 5 0 := ⟨_, _, _, _, clX5, by decide, lw_good_in (List.mem_append_right _ (List.mem_of_getElem? (i := 201) (by decide +kernel))) (by decide +kernel)⟩
theorem flX8_202 : sm_Fl RX8 202 5 0 (.int) false := ⟨_, _, _, _, clX5, by decide, rfl, rfl, lw_good_in (List.mem_append_right _ (List.mem_of_getElem? (i := 201) (by decide +kernel))) (by decide +kernel), by decide +kernel⟩
theorem fgX5_37 : sm_Fg RX5 37 5 1 := ⟨_, _, _, _, clX5, by decide, lw_good_in (List.mem_append_right _ (List.mem_of_getElem? (i := 202) (by decide +kernel))) (by decide +kernel)⟩
theorem flX5_37 : sm_Fl RX5 37 5 1 (.int) false := ⟨_, _, _, _, clX5, by decide, rfl, rfl, lw_good_in (List.mem_append_right _ (List.mem_of_getElem? (i := 202) (by decide +kernel))) (by decide +kernel), by decide +kernel⟩
theorem fgX8_190 : sm_Fg RX8 190 5 1 := ⟨_, _, _, _, clX5, by decide, lw_good_in (List.mem_append_right _ (List.mem_of_getElem? (i := 203) (by decide +kernel))) (by decide +kernel)⟩
theorem flX8_190 : sm_Fl RX8 190 5 1 (.int) false := ⟨_, _, _, _, clX5, by decide, rfl, rfl, lw_good_in (List.mem_append_right _ (List.mem_of_getElem? (i := 203) (by decide +kernel))) (by decide +kernel), by decide +kernel⟩
theorem fgX5_40 : sm_Fg RX5 40 5 2 := ⟨_, _, _, _, clX5, by decide, lw_good_in (List.mem_append_right _ (List.mem_of_getElem? (i := 204) (by decide +kernel))) (by decide +kernel)⟩
theorem flX5_40 : sm_Fl RX5 40 5 2 (.int) false := ⟨_, _, _, _, clX5, by decide, rfl, rfl, lw_good_in (List.mem_append_right _ (List.mem_of_getElem? (i := 204) (by decide +kernel))) (by decide +kernel), by decide +kernel⟩
theorem fgX8_193 : sm_Fg RX8 193 5 2 := ⟨_, _, _, _, clX5, by decide, lw_good_in (List.mem_append_right _ (List.mem_of_getElem? (i := 205) (by decide +kernel))) (by decide +kernel)⟩
theorem flX8_193 : sm_Fl RX8 193 5 2 (.int) false := ⟨_, _, _, _, clX5, by decide, rfl, rfl, lw_good_in (List.mem_append_right _ (List.mem_of_getElem? (i := 205) (by decide +kernel))) (by decide +kernel), by decide +kernel⟩
theorem fgX5_43 : sm_Fg RX5 43 5 3 := ⟨_, _, _, _, clX5, by decide, lw_good_in (List.mem_append_right _ (List.mem_of_getElem? (i := 206) (by decide +kernel))) (by decide +kernel)⟩
theorem flX5_43 : sm_Fl RX5 43 5 3 (.int) false := ⟨_, _, _, _, clX5, by decide, rfl, rfl, lw_good_in (List.mem_append_right _ (List.mem_of_getElem? (i := 206) (by decide +kernel))) (by decide +kernel), by decide +kernel⟩
theorem fgX8_196 : sm_Fg RX8 196 5 3 := ⟨_, _, _, _, clX5, by decide, lw_good_in (List.mem_append_right _ (List.mem_of_getElem? (i := 207) (by decide +kernel))) (by decide +kernel)⟩
theorem flX8_196 : sm_Fl RX8 196 5 3 (.int) false := ⟨_, _, _, _, clX5, by decide, rfl, rfl, lw_good_in (List.mem_append_right _ (List.mem_of_getElem? (i := 207) (by decide +kernel))) (by decide +kernel), by decide +kernel⟩
theorem fgX5_46 : sm_Fg RX5 46 5 4 := ⟨_, _, _, _, clX5, by decide, lw_good_in (List.mem_append_right _ (List.mem_of_getElem? (i := 208) (by decide +kernel))) (by decide +kernel)⟩
theorem flX5_46 : sm_Fl RX5 46 5 4 (.int) false := ⟨_, _, _, _, clX5, by decide, rfl, rfl, lw_good_in (List.mem_append_right _ (List.mem_of_getElem? (i := 208) (by decide +kernel))) (by decide +kernel), by decide +kernel⟩
theorem fgX8_199 : sm_Fg RX8 199 5 4 := ⟨_, _, _, _, clX5, by decide, lw_good_in (List.mem_append_right _ (List.mem_of_getElem? (i := 209) (by decide +kernel))) (by decide +kernel)⟩
theorem flX8_199 : sm_Fl RX8 199 5 4 (.int) false := ⟨_, _, _, _, clX5, by decide, rfl, rfl, lw_good_in (List.mem_append_right _ (List.mem_of_getElem? (i := 209) (by decide +kernel))) (by decide +kernel), by decide +kernel⟩
theorem fgX8_12 : sm_Fg RX8 12 8 0 := ⟨_, _, _, _, clX8, by decide, lw_good_in (List.mem_append_right _ (List.mem_of_getElem? (i := 221) (by decide +kernel))) (by decide +kernel)⟩
theorem flX8_12 : sm_Fl RX8 12 8 0 (.object "CaskGauge$Text") true := ⟨_, _, _, _, clX8, by decide, rfl, rfl, lw_good_in (List.mem_append_right _ (List.mem_of_getElem? (i := 221) (by decide +kernel))) (by decide +kernel), by decide +kernel⟩
theorem fgX8_21 : sm_Fg RX8 21 8 1 := ⟨_, _, _, _, clX8, by decide, lw_good_in (List.mem_append_right _ (List.mem_of_getElem? (i := 222) (by decide +kernel))) (by decide +kernel)⟩
theorem flX8_21 : sm_Fl RX8 21 8 1 (.object "CaskGauge$Reader") true := ⟨_, _, _, _, clX8, by decide, rfl, rfl, lw_good_in (List.mem_append_right _ (List.mem_of_getElem? (i := 222) (by decide +kernel))) (by decide +kernel), by decide +kernel⟩
theorem fgX8_28 : sm_Fg RX8 28 8 2 := ⟨_, _, _, _, clX8, by decide, lw_good_in (List.mem_append_right _ (List.mem_of_getElem? (i := 223) (by decide +kernel))) (by decide +kernel)⟩
theorem flX8_28 : sm_Fl RX8 28 8 2 (.object "CaskGauge$Cellar") true := ⟨_, _, _, _, clX8, by decide, rfl, rfl, lw_good_in (List.mem_append_right _ (List.mem_of_getElem? (i := 223) (by decide +kernel))) (by decide +kernel), by decide +kernel⟩
theorem fgX8_35 : sm_Fg RX8 35 8 3 := ⟨_, _, _, _, clX8, by decide, lw_good_in (List.mem_append_right _ (List.mem_of_getElem? (i := 224) (by decide +kernel))) (by decide +kernel)⟩
theorem flX8_35 : sm_Fl RX8 35 8 3 (.object "CaskGauge$Past") true := ⟨_, _, _, _, clX8, by decide, rfl, rfl, lw_good_in (List.mem_append_right _ (List.mem_of_getElem? (i := 224) (by decide +kernel))) (by decide +kernel), by decide +kernel⟩
theorem fgX8_39 : sm_Fg RX8 39 8 4 := ⟨_, _, _, _, clX8, by decide, lw_good_in (List.mem_append_right _ (List.mem_of_getElem? (i := 225) (by decide +kernel))) (by decide +kernel)⟩
theorem flX8_39 : sm_Fl RX8 39 8 4 (.array (.object "CaskGauge$Cellar")) true := ⟨_, _, _, _, clX8, by decide, rfl, rfl, lw_good_in (List.mem_append_right _ (List.mem_of_getElem? (i := 225) (by decide +kernel))) (by decide +kernel), by decide +kernel⟩
theorem fgX8_43 : sm_Fg RX8 43 8 5 := ⟨_, _, _, _, clX8, by decide, lw_good_in (List.mem_append_right _ (List.mem_of_getElem? (i := 226) (by decide +kernel))) (by decide +kernel)⟩
theorem flX8_43 : sm_Fl RX8 43 8 5 (.array .boolean) true := ⟨_, _, _, _, clX8, by decide, rfl, rfl, lw_good_in (List.mem_append_right _ (List.mem_of_getElem? (i := 226) (by decide +kernel))) (by decide +kernel), by decide +kernel⟩
theorem fgX8_50 : sm_Fg RX8 50 8 6 := ⟨_, _, _, _, clX8, by decide, lw_good_in (List.mem_append_right _ (List.mem_of_getElem? (i := 227) (by decide +kernel))) (by decide +kernel)⟩
theorem flX8_50 : sm_Fl RX8 50 8 6 (.object "CaskGauge$Sightings") true := ⟨_, _, _, _, clX8, by decide, rfl, rfl, lw_good_in (List.mem_append_right _ (List.mem_of_getElem? (i := 227) (by decide +kernel))) (by decide +kernel), by decide +kernel⟩
theorem fgX8_56 : sm_Fg RX8 56 8 7 := ⟨_, _, _, _, clX8, by decide, lw_good_in (List.mem_append_right _ (List.mem_of_getElem? (i := 228) (by decide +kernel))) (by decide +kernel)⟩
theorem flX8_56 : sm_Fl RX8 56 8 7 (.array (.object "CaskGauge$Levels")) true := ⟨_, _, _, _, clX8, by decide, rfl, rfl, lw_good_in (List.mem_append_right _ (List.mem_of_getElem? (i := 228) (by decide +kernel))) (by decide +kernel), by decide +kernel⟩
theorem fgX8_60 : sm_Fg RX8 60 8 8 := ⟨_, _, _, _, clX8, by decide, lw_good_in (List.mem_append_right _ (List.mem_of_getElem? (i := 229) (by decide +kernel))) (by decide +kernel)⟩
theorem flX8_60 : sm_Fl RX8 60 8 8 (.array (.object "CaskGauge$Levels")) true := ⟨_, _, _, _, clX8, by decide, rfl, rfl, lw_good_in (List.mem_append_right _ (List.mem_of_getElem? (i := 229) (by decide +kernel))) (by decide +kernel), by decide +kernel⟩
theorem fgX8_69 : sm_Fg RX8 69 8 9 := ⟨_, _, _, _, clX8, by decide, lw_good_in (List.mem_append_right _ (List.mem_of_getElem? (i := 230) (by decide +kernel))) (by decide +kernel)⟩
theorem flX8_69 : sm_Fl RX8 69 8 9 (.object "CaskGauge$Sharing") true := ⟨_, _, _, _, clX8, by decide, rfl, rfl, lw_good_in (List.mem_append_right _ (List.mem_of_getElem? (i := 230) (by decide +kernel))) (by decide +kernel), by decide +kernel⟩
theorem fgX8_73 : sm_Fg RX8 73 8 10 := ⟨_, _, _, _, clX8, by decide, lw_good_in (List.mem_append_right _ (List.mem_of_getElem? (i := 231) (by decide +kernel))) (by decide +kernel)⟩
theorem flX8_73 : sm_Fl RX8 73 8 10 (.array .int) true := ⟨_, _, _, _, clX8, by decide, rfl, rfl, lw_good_in (List.mem_append_right _ (List.mem_of_getElem? (i := 231) (by decide +kernel))) (by decide +kernel), by decide +kernel⟩
theorem mlL_13 : Cond.methodLink RL 13 mX8_type.1 ∈ lw_good := lw_good_in (List.mem_append_right _ (List.mem_of_getElem? (i := 255) (by decide +kernel))) (by decide +kernel)
theorem mlX8_77 : Cond.methodLink RX8 77 mX7_add.1 ∈ lw_good := lw_good_in (List.mem_append_right _ (List.mem_of_getElem? (i := 259) (by decide +kernel))) (by decide +kernel)
theorem mlL_18 : Cond.methodLink RL 18 mX8_clear.1 ∈ lw_good := lw_good_in (List.mem_append_right _ (List.mem_of_getElem? (i := 263) (by decide +kernel))) (by decide +kernel)
theorem mlL_23 : Cond.methodLink RL 23 mX8_tells.1 ∈ lw_good := lw_good_in (List.mem_append_right _ (List.mem_of_getElem? (i := 267) (by decide +kernel))) (by decide +kernel)
theorem mlX8_85 : Cond.methodLink RX8 85 mX4_readAll.1 ∈ lw_good := lw_good_in (List.mem_append_right _ (List.mem_of_getElem? (i := 271) (by decide +kernel))) (by decide +kernel)
theorem mlX4_22 : Cond.methodLink RX4 22 mX7_split.1 ∈ lw_good := lw_good_in (List.mem_append_right _ (List.mem_of_getElem? (i := 275) (by decide +kernel))) (by decide +kernel)
theorem mlX7_28 : Cond.methodLink RX7 28 mX7_goesOn.1 ∈ lw_good := lw_good_in (List.mem_append_right _ (List.mem_of_getElem? (i := 279) (by decide +kernel))) (by decide +kernel)
theorem mlX7_36 : Cond.methodLink RX7 36 mX7_isSmallLetter.1 ∈ lw_good := lw_good_in (List.mem_append_right _ (List.mem_of_getElem? (i := 283) (by decide +kernel))) (by decide +kernel)
theorem mlX7_39 : Cond.methodLink RX7 39 mX7_isFigure.1 ∈ lw_good := lw_good_in (List.mem_append_right _ (List.mem_of_getElem? (i := 286) (by decide +kernel))) (by decide +kernel)
theorem mlX7_32 : Cond.methodLink RX7 32 mX7_putKind.1 ∈ lw_good := lw_good_in (List.mem_append_right _ (List.mem_of_getElem? (i := 289) (by decide +kernel))) (by decide +kernel)
theorem mlX7_42 : Cond.methodLink RX7 42 mX7_kindOfWord.1 ∈ lw_good := lw_good_in (List.mem_append_right _ (List.mem_of_getElem? (i := 293) (by decide +kernel))) (by decide +kernel)
theorem mlX7_54 : Cond.methodLink RX7 54 mX7_isWord.1 ∈ lw_good := lw_good_in (List.mem_append_right _ (List.mem_of_getElem? (i := 298) (by decide +kernel))) (by decide +kernel)
theorem mlX7_60 : Cond.methodLink RX7 60 mJ0_length_8abf5.1 ∈ lw_good := lw_good_in (List.mem_append_right _ (List.mem_of_getElem? (i := 302) (by decide +kernel))) (by decide +kernel)
theorem mlJ0_335 : Cond.methodLink RJ0 335 mJ0_coder_7d493.1 ∈ lw_good := lw_good_in (List.mem_append_right _ (List.mem_of_getElem? (i := 306) (by decide +kernel))) (by decide +kernel)
theorem mlX7_65 : Cond.methodLink RX7 65 mJ0_charAt_5068e.1 ∈ lw_good := lw_good_in (List.mem_append_right _ (List.mem_of_getElem? (i := 312) (by decide +kernel))) (by decide +kernel)
theorem mlJ0_492 : Cond.methodLink RJ0 492 mJ0_isLatin1_aae02.1 ∈ lw_good := lw_good_in (List.mem_append_right _ (List.mem_of_getElem? (i := 316) (by decide +kernel))) (by decide +kernel)
theorem mlJ0_495 : Cond.methodLink RJ0 495 mJ1_charAt_3b067.1 ∈ lw_good := lw_good_in (List.mem_append_right _ (List.mem_of_getElem? (i := 320) (by decide +kernel))) (by decide +kernel)
theorem mlJ1_9 : Cond.methodLink RJ1 9 mJ0_checkIndex_df160.1 ∈ lw_good := lw_good_in (List.mem_append_right _ (List.mem_of_getElem? (i := 323) (by decide +kernel))) (by decide +kernel)
theorem mlJ0_1059 : Cond.methodLink RJ0 1059 mJ3_checkIndex_8e157.1 ∈ lw_good := lw_good_in (List.mem_append_right _ (List.mem_of_getElem? (i := 328) (by decide +kernel))) (by decide +kernel)
theorem mlJ0_498 : Cond.methodLink RJ0 498 mJ2_charAt_3b067.1 ∈ lw_good := lw_good_in (List.mem_append_right _ (List.mem_of_getElem? (i := 331) (by decide +kernel))) (by decide +kernel)
theorem mlJ2_67 : Cond.methodLink RJ2 67 mJ2_checkIndex_2214a.1 ∈ lw_good := lw_good_in (List.mem_append_right _ (List.mem_of_getElem? (i := 334) (by decide +kernel))) (by decide +kernel)
theorem mlJ2_48 : Cond.methodLink RJ2 48 mJ2_length_9d52b.1 ∈ lw_good := lw_good_in (List.mem_append_right _ (List.mem_of_getElem? (i := 337) (by decide +kernel))) (by decide +kernel)
theorem mlJ2_414 : Cond.methodLink RJ2 414 mJ0_checkIndex_df160.1 ∈ lw_good := lw_good_in (List.mem_append_right _ (List.mem_of_getElem? (i := 340) (by decide +kernel))) (by decide +kernel)
theorem mlJ2_71 : Cond.methodLink RJ2 71 mJ2_getChar_3b067.1 ∈ lw_good := lw_good_in (List.mem_append_right _ (List.mem_of_getElem? (i := 341) (by decide +kernel))) (by decide +kernel)
theorem mlX7_46 : Cond.methodLink RX7 46 mX7_kindOfNumber.1 ∈ lw_good := lw_good_in (List.mem_append_right _ (List.mem_of_getElem? (i := 351) (by decide +kernel))) (by decide +kernel)
theorem mlX7_49 : Cond.methodLink RX7 49 mX7_valueOf.1 ∈ lw_good := lw_good_in (List.mem_append_right _ (List.mem_of_getElem? (i := 355) (by decide +kernel))) (by decide +kernel)
theorem mlX4_27 : Cond.methodLink RX4 27 mX1_empty.1 ∈ lw_good := lw_good_in (List.mem_append_right _ (List.mem_of_getElem? (i := 359) (by decide +kernel))) (by decide +kernel)
theorem mlX4_41 : Cond.methodLink RX4 41 mX4_readItem.1 ∈ lw_good := lw_good_in (List.mem_append_right _ (List.mem_of_getElem? (i := 363) (by decide +kernel))) (by decide +kernel)
theorem mlX4_51 : Cond.methodLink RX4 51 mX4_readCask.1 ∈ lw_good := lw_good_in (List.mem_append_right _ (List.mem_of_getElem? (i := 367) (by decide +kernel))) (by decide +kernel)
theorem mlX4_57 : Cond.methodLink RX4 57 mX4_readNumber.1 ∈ lw_good := lw_good_in (List.mem_append_right _ (List.mem_of_getElem? (i := 371) (by decide +kernel))) (by decide +kernel)
theorem mlX4_85 : Cond.methodLink RX4 85 mX4_step.1 ∈ lw_good := lw_good_in (List.mem_append_right _ (List.mem_of_getElem? (i := 375) (by decide +kernel))) (by decide +kernel)
theorem mlX4_64 : Cond.methodLink RX4 64 mX4_readItemEnd.1 ∈ lw_good := lw_good_in (List.mem_append_right _ (List.mem_of_getElem? (i := 379) (by decide +kernel))) (by decide +kernel)
theorem mlX4_67 : Cond.methodLink RX4 67 mX1_add.1 ∈ lw_good := lw_good_in (List.mem_append_right _ (List.mem_of_getElem? (i := 383) (by decide +kernel))) (by decide +kernel)
theorem mlX1_22 : Cond.methodLink RX1 22 mX0_becomeNew.1 ∈ lw_good := lw_good_in (List.mem_append_right _ (List.mem_of_getElem? (i := 387) (by decide +kernel))) (by decide +kernel)
theorem mlX4_54 : Cond.methodLink RX4 54 mX4_readStands.1 ∈ lw_good := lw_good_in (List.mem_append_right _ (List.mem_of_getElem? (i := 391) (by decide +kernel))) (by decide +kernel)
theorem mlX4_71 : Cond.methodLink RX4 71 mX1_has.1 ∈ lw_good := lw_good_in (List.mem_append_right _ (List.mem_of_getElem? (i := 395) (by decide +kernel))) (by decide +kernel)
theorem mlX8_89 : Cond.methodLink RX8 89 mX4_faultPlace.1 ∈ lw_good := lw_good_in (List.mem_append_right _ (List.mem_of_getElem? (i := 399) (by decide +kernel))) (by decide +kernel)
theorem mlX8_93 : Cond.methodLink RX8 93 mX3_remember.1 ∈ lw_good := lw_good_in (List.mem_append_right _ (List.mem_of_getElem? (i := 403) (by decide +kernel))) (by decide +kernel)
theorem mlX3_22 : Cond.methodLink RX3 22 mX1_copyFrom.1 ∈ lw_good := lw_good_in (List.mem_append_right _ (List.mem_of_getElem? (i := 407) (by decide +kernel))) (by decide +kernel)
theorem mlX1_26 : Cond.methodLink RX1 26 mX0_copyFrom.1 ∈ lw_good := lw_good_in (List.mem_append_right _ (List.mem_of_getElem? (i := 411) (by decide +kernel))) (by decide +kernel)
theorem mlX3_29 : Cond.methodLink RX3 29 mJ9_min_7cf53.1 ∈ lw_good := lw_good_in (List.mem_append_right _ (List.mem_of_getElem? (i := 415) (by decide +kernel))) (by decide +kernel)
theorem mlX8_100 : Cond.methodLink RX8 100 mX1_copyFrom.1 ∈ lw_good := lw_good_in (List.mem_append_right _ (List.mem_of_getElem? (i := 418) (by decide +kernel))) (by decide +kernel)
theorem ac_byte : Cond.arrayClass .byte ∈ lw_good := lw_good_in (List.mem_append_right _ (List.mem_of_getElem? (i := 419) (by decide +kernel))) (by decide +kernel)
theorem mlL_27 : Cond.methodLink RL 27 mX8_fills.1 ∈ lw_good := lw_good_in (List.mem_append_right _ (List.mem_of_getElem? (i := 420) (by decide +kernel))) (by decide +kernel)
theorem mlX8_106 : Cond.methodLink RX8 106 mX1_has.1 ∈ lw_good := lw_good_in (List.mem_append_right _ (List.mem_of_getElem? (i := 424) (by decide +kernel))) (by decide +kernel)
theorem mlX8_109 : Cond.methodLink RX8 109 mX8_roomIn.1 ∈ lw_good := lw_good_in (List.mem_append_right _ (List.mem_of_getElem? (i := 425) (by decide +kernel))) (by decide +kernel)
theorem mlX8_149 : Cond.methodLink RX8 149 mX8_levelsOf.1 ∈ lw_good := lw_good_in (List.mem_append_right _ (List.mem_of_getElem? (i := 429) (by decide +kernel))) (by decide +kernel)
theorem mlX8_217 : Cond.methodLink RX8 217 mX8_lyingLevelsOf.1 ∈ lw_good := lw_good_in (List.mem_append_right _ (List.mem_of_getElem? (i := 433) (by decide +kernel))) (by decide +kernel)
theorem mlX8_247 : Cond.methodLink RX8 247 mX2_measure.1 ∈ lw_good := lw_good_in (List.mem_append_right _ (List.mem_of_getElem? (i := 437) (by decide +kernel))) (by decide +kernel)
theorem mlX2_34 : Cond.methodLink RX2 34 mJ9_min_7cf53.1 ∈ lw_good := lw_good_in (List.mem_append_right _ (List.mem_of_getElem? (i := 441) (by decide +kernel))) (by decide +kernel)
theorem mlX2_43 : Cond.methodLink RX2 43 mX0_radiusOf.1 ∈ lw_good := lw_good_in (List.mem_append_right _ (List.mem_of_getElem? (i := 442) (by decide +kernel))) (by decide +kernel)
theorem mlX2_47 : Cond.methodLink RX2 47 mX0_cellsOf.1 ∈ lw_good := lw_good_in (List.mem_append_right _ (List.mem_of_getElem? (i := 446) (by decide +kernel))) (by decide +kernel)
theorem mlX2_50 : Cond.methodLink RX2 50 mX2_addAhead.1 ∈ lw_good := lw_good_in (List.mem_append_right _ (List.mem_of_getElem? (i := 450) (by decide +kernel))) (by decide +kernel)
theorem mlX2_54 : Cond.methodLink RX2 54 mX2_reach.1 ∈ lw_good := lw_good_in (List.mem_append_right _ (List.mem_of_getElem? (i := 454) (by decide +kernel))) (by decide +kernel)
theorem mlX8_153 : Cond.methodLink RX8 153 mX2_hold.1 ∈ lw_good := lw_good_in (List.mem_append_right _ (List.mem_of_getElem? (i := 458) (by decide +kernel))) (by decide +kernel)
theorem mlX2_58 : Cond.methodLink RX2 58 mX2_amountAt.1 ∈ lw_good := lw_good_in (List.mem_append_right _ (List.mem_of_getElem? (i := 462) (by decide +kernel))) (by decide +kernel)
theorem mlX8_117 : Cond.methodLink RX8 117 mX0_takeIn.1 ∈ lw_good := lw_good_in (List.mem_append_right _ (List.mem_of_getElem? (i := 466) (by decide +kernel))) (by decide +kernel)
theorem mlL_32 : Cond.methodLink RL 32 mX8_draws.1 ∈ lw_good := lw_good_in (List.mem_append_right _ (List.mem_of_getElem? (i := 470) (by decide +kernel))) (by decide +kernel)
theorem mlX8_126 : Cond.methodLink RX8 126 mX0_giveOut.1 ∈ lw_good := lw_good_in (List.mem_append_right _ (List.mem_of_getElem? (i := 474) (by decide +kernel))) (by decide +kernel)
theorem mlL_37 : Cond.methodLink RL 37 mX8_pours.1 ∈ lw_good := lw_good_in (List.mem_append_right _ (List.mem_of_getElem? (i := 478) (by decide +kernel))) (by decide +kernel)
theorem mlL_41 : Cond.methodLink RL 41 mX8_turnsOver.1 ∈ lw_good := lw_good_in (List.mem_append_right _ (List.mem_of_getElem? (i := 482) (by decide +kernel))) (by decide +kernel)
theorem mlL_45 : Cond.methodLink RL 45 mX8_undo.1 ∈ lw_good := lw_good_in (List.mem_append_right _ (List.mem_of_getElem? (i := 486) (by decide +kernel))) (by decide +kernel)
theorem mlX8_133 : Cond.methodLink RX8 133 mX3_recallInto.1 ∈ lw_good := lw_good_in (List.mem_append_right _ (List.mem_of_getElem? (i := 490) (by decide +kernel))) (by decide +kernel)
theorem mlL_49 : Cond.methodLink RL 49 mX8_cask.1 ∈ lw_good := lw_good_in (List.mem_append_right _ (List.mem_of_getElem? (i := 494) (by decide +kernel))) (by decide +kernel)
theorem mlX8_159 : Cond.methodLink RX8 159 mX2_leastDip.1 ∈ lw_good := lw_good_in (List.mem_append_right _ (List.mem_of_getElem? (i := 498) (by decide +kernel))) (by decide +kernel)
theorem mlX2_61 : Cond.methodLink RX2 61 mX2_leastDipFrom.1 ∈ lw_good := lw_good_in (List.mem_append_right _ (List.mem_of_getElem? (i := 502) (by decide +kernel))) (by decide +kernel)
theorem mlX2_64 : Cond.methodLink RX2 64 mJ9_max_7cf53.1 ∈ lw_good := lw_good_in (List.mem_append_right _ (List.mem_of_getElem? (i := 506) (by decide +kernel))) (by decide +kernel)
theorem mlX8_162 : Cond.methodLink RX8 162 mX0_strength.1 ∈ lw_good := lw_good_in (List.mem_append_right _ (List.mem_of_getElem? (i := 509) (by decide +kernel))) (by decide +kernel)
theorem mlX8_166 : Cond.methodLink RX8 166 mX8_inThousandths.1 ∈ lw_good := lw_good_in (List.mem_append_right _ (List.mem_of_getElem? (i := 513) (by decide +kernel))) (by decide +kernel)
theorem kfX8_251 : Cond.constantFloat RX8 251 1148846080 ∈ lw_good := lw_good_in (List.mem_append_right _ (List.mem_of_getElem? (i := 516) (by decide +kernel))) (by decide +kernel)
theorem mlL_53 : Cond.methodLink RL 53 mX8_slice.1 ∈ lw_good := lw_good_in (List.mem_append_right _ (List.mem_of_getElem? (i := 517) (by decide +kernel))) (by decide +kernel)
theorem mlX8_170 : Cond.methodLink RX8 170 mX0_radiusOf.1 ∈ lw_good := lw_good_in (List.mem_append_right _ (List.mem_of_getElem? (i := 521) (by decide +kernel))) (by decide +kernel)
theorem mlX8_173 : Cond.methodLink RX8 173 mX0_cellsOf.1 ∈ lw_good := lw_good_in (List.mem_append_right _ (List.mem_of_getElem? (i := 522) (by decide +kernel))) (by decide +kernel)
theorem mlL_57 : Cond.methodLink RL 57 mX8_under.1 ∈ lw_good := lw_good_in (List.mem_append_right _ (List.mem_of_getElem? (i := 523) (by decide +kernel))) (by decide +kernel)
theorem mlX8_177 : Cond.methodLink RX8 177 mX2_reach.1 ∈ lw_good := lw_good_in (List.mem_append_right _ (List.mem_of_getElem? (i := 527) (by decide +kernel))) (by decide +kernel)
theorem mlX8_180 : Cond.methodLink RX8 180 mX2_amountAt.1 ∈ lw_good := lw_good_in (List.mem_append_right _ (List.mem_of_getElem? (i := 528) (by decide +kernel))) (by decide +kernel)
theorem mlL_61 : Cond.methodLink RL 61 mX8_dip.1 ∈ lw_good := lw_good_in (List.mem_append_right _ (List.mem_of_getElem? (i := 529) (by decide +kernel))) (by decide +kernel)
theorem mlL_65 : Cond.methodLink RL 65 mX8_stick.1 ∈ lw_good := lw_good_in (List.mem_append_right _ (List.mem_of_getElem? (i := 533) (by decide +kernel))) (by decide +kernel)
theorem mlX8_183 : Cond.methodLink RX8 183 mX2_markAt.1 ∈ lw_good := lw_good_in (List.mem_append_right _ (List.mem_of_getElem? (i := 537) (by decide +kernel))) (by decide +kernel)
theorem mlX2_67 : Cond.methodLink RX2 67 mX2_hold.1 ∈ lw_good := lw_good_in (List.mem_append_right _ (List.mem_of_getElem? (i := 541) (by decide +kernel))) (by decide +kernel)
theorem mlL_69 : Cond.methodLink RL 69 mX8_known.1 ∈ lw_good := lw_good_in (List.mem_append_right _ (List.mem_of_getElem? (i := 542) (by decide +kernel))) (by decide +kernel)
theorem mlL_73 : Cond.methodLink RL 73 mX8_shares.1 ∈ lw_good := lw_good_in (List.mem_append_right _ (List.mem_of_getElem? (i := 546) (by decide +kernel))) (by decide +kernel)
theorem mlX8_186 : Cond.methodLink RX8 186 mX5_findFairest.1 ∈ lw_good := lw_good_in (List.mem_append_right _ (List.mem_of_getElem? (i := 550) (by decide +kernel))) (by decide +kernel)
theorem mlX5_15 : Cond.methodLink RX5 15 mX2_leastDip.1 ∈ lw_good := lw_good_in (List.mem_append_right _ (List.mem_of_getElem? (i := 554) (by decide +kernel))) (by decide +kernel)
theorem mlX5_21 : Cond.methodLink RX5 21 mJ9_min_7cf53.1 ∈ lw_good := lw_good_in (List.mem_append_right _ (List.mem_of_getElem? (i := 555) (by decide +kernel))) (by decide +kernel)
theorem mlX5_27 : Cond.methodLink RX5 27 mX5_weigh.1 ∈ lw_good := lw_good_in (List.mem_append_right _ (List.mem_of_getElem? (i := 556) (by decide +kernel))) (by decide +kernel)
theorem mlX5_31 : Cond.methodLink RX5 31 mX2_amountAt.1 ∈ lw_good := lw_good_in (List.mem_append_right _ (List.mem_of_getElem? (i := 560) (by decide +kernel))) (by decide +kernel)
theorem mlX5_34 : Cond.methodLink RX5 34 mJ9_max_7cf53.1 ∈ lw_good := lw_good_in (List.mem_append_right _ (List.mem_of_getElem? (i := 561) (by decide +kernel))) (by decide +kernel)
theorem mlL_77 : Cond.methodLink RL 77 mX8_all.1 ∈ lw_good := lw_good_in (List.mem_append_right _ (List.mem_of_getElem? (i := 562) (by decide +kernel))) (by decide +kernel)
theorem mlX8_205 : Cond.methodLink RX8 205 mX1_strongest.1 ∈ lw_good := lw_good_in (List.mem_append_right _ (List.mem_of_getElem? (i := 566) (by decide +kernel))) (by decide +kernel)
theorem mlX1_36 : Cond.methodLink RX1 36 mX0_strength.1 ∈ lw_good := lw_good_in (List.mem_append_right _ (List.mem_of_getElem? (i := 570) (by decide +kernel))) (by decide +kernel)
theorem mlX8_208 : Cond.methodLink RX8 208 mX1_meanStrength.1 ∈ lw_good := lw_good_in (List.mem_append_right _ (List.mem_of_getElem? (i := 571) (by decide +kernel))) (by decide +kernel)
theorem mlL_81 : Cond.methodLink RL 81 mX8_sees.1 ∈ lw_good := lw_good_in (List.mem_append_right _ (List.mem_of_getElem? (i := 575) (by decide +kernel))) (by decide +kernel)
theorem kcX8_211 : Cond.constant RX8 211 99999 ∈ lw_good := lw_good_in (List.mem_append_right _ (List.mem_of_getElem? (i := 579) (by decide +kernel))) (by decide +kernel)
theorem mlX8_212 : Cond.methodLink RX8 212 mX6_add.1 ∈ lw_good := lw_good_in (List.mem_append_right _ (List.mem_of_getElem? (i := 580) (by decide +kernel))) (by decide +kernel)
theorem mlL_85 : Cond.methodLink RL 85 mX8_forget.1 ∈ lw_good := lw_good_in (List.mem_append_right _ (List.mem_of_getElem? (i := 584) (by decide +kernel))) (by decide +kernel)
theorem mlL_89 : Cond.methodLink RL 89 mX8_which.1 ∈ lw_good := lw_good_in (List.mem_append_right _ (List.mem_of_getElem? (i := 588) (by decide +kernel))) (by decide +kernel)
theorem mlX8_220 : Cond.methodLink RX8 220 mX6_fits.1 ∈ lw_good := lw_good_in (List.mem_append_right _ (List.mem_of_getElem? (i := 592) (by decide +kernel))) (by decide +kernel)
theorem mlX6_22 : Cond.methodLink RX6 22 mX2_leastDip.1 ∈ lw_good := lw_good_in (List.mem_append_right _ (List.mem_of_getElem? (i := 596) (by decide +kernel))) (by decide +kernel)
theorem mlL_93 : Cond.methodLink RL 93 mX8_ask.1 ∈ lw_good := lw_good_in (List.mem_append_right _ (List.mem_of_getElem? (i := 597) (by decide +kernel))) (by decide +kernel)
theorem mlX8_224 : Cond.methodLink RX8 224 mX8_which.1 ∈ lw_good := lw_good_in (List.mem_append_right _ (List.mem_of_getElem? (i := 601) (by decide +kernel))) (by decide +kernel)
theorem mlX8_227 : Cond.methodLink RX8 227 mJ6_bitCount_0f7a4.1 ∈ lw_good := lw_good_in (List.mem_append_right _ (List.mem_of_getElem? (i := 602) (by decide +kernel))) (by decide +kernel)
theorem kcJ6_265 : Cond.constant RJ6 265 1431655765 ∈ lw_good := lw_good_in (List.mem_append_right _ (List.mem_of_getElem? (i := 605) (by decide +kernel))) (by decide +kernel)
theorem kcJ6_266 : Cond.constant RJ6 266 858993459 ∈ lw_good := lw_good_in (List.mem_append_right _ (List.mem_of_getElem? (i := 606) (by decide +kernel))) (by decide +kernel)
theorem kcJ6_267 : Cond.constant RJ6 267 252645135 ∈ lw_good := lw_good_in (List.mem_append_right _ (List.mem_of_getElem? (i := 607) (by decide +kernel))) (by decide +kernel)
theorem mlX8_232 : Cond.methodLink RX8 232 mX8_startAsking.1 ∈ lw_good := lw_good_in (List.mem_append_right _ (List.mem_of_getElem? (i := 608) (by decide +kernel))) (by decide +kernel)
theorem mlX8_235 : Cond.methodLink RX8 235 mX8_mostAlike.1 ∈ lw_good := lw_good_in (List.mem_append_right _ (List.mem_of_getElem? (i := 612) (by decide +kernel))) (by decide +kernel)
theorem mlX8_255 : Cond.methodLink RX8 255 mJ9_max_7cf53.1 ∈ lw_good := lw_good_in (List.mem_append_right _ (List.mem_of_getElem? (i := 616) (by decide +kernel))) (by decide +kernel)
theorem mlX8_238 : Cond.methodLink RX8 238 mX8_raiseAskedDips.1 ∈ lw_good := lw_good_in (List.mem_append_right _ (List.mem_of_getElem? (i := 617) (by decide +kernel))) (by decide +kernel)
theorem mlX8_252 : Cond.methodLink RX8 252 mX2_leastDipFrom.1 ∈ lw_good := lw_good_in (List.mem_append_right _ (List.mem_of_getElem? (i := 621) (by decide +kernel))) (by decide +kernel)
theorem mlL_97 : Cond.methodLink RL 97 mX8_keep.1 ∈ lw_good := lw_good_in (List.mem_append_right _ (List.mem_of_getElem? (i := 622) (by decide +kernel))) (by decide +kernel)
theorem mlL_101 : Cond.methodLink RL 101 mX8_back.1 ∈ lw_good := lw_good_in (List.mem_append_right _ (List.mem_of_getElem? (i := 626) (by decide +kernel))) (by decide +kernel)
theorem mlL_105 : Cond.methodLink RL 105 mX8_count.1 ∈ lw_good := lw_good_in (List.mem_append_right _ (List.mem_of_getElem? (i := 630) (by decide +kernel))) (by decide +kernel)
theorem mlX8_241 : Cond.methodLink RX8 241 mX1_allWine.1 ∈ lw_good := lw_good_in (List.mem_append_right _ (List.mem_of_getElem? (i := 634) (by decide +kernel))) (by decide +kernel)
theorem mlX8_244 : Cond.methodLink RX8 244 mX1_allSpirit.1 ∈ lw_good := lw_good_in (List.mem_append_right _ (List.mem_of_getElem? (i := 638) (by decide +kernel))) (by decide +kernel)
theorem cnL_10 : Cond.classLink RL 10 RX9 ∈ lw_good := lw_good_in (List.mem_append_right _ (List.mem_of_getElem? (i := 642) (by decide +kernel))) (by decide +kernel)
theorem isX9 : Cond.instantiable RX9 21 ∈ lw_good := lw_good_in (List.mem_append_right _ (List.mem_of_getElem? (i := 643) (by decide +kernel))) (by decide +kernel)
theorem mlL_12 : Cond.methodLink RL 12 mX9_init.1 ∈ lw_good := lw_good_in (List.mem_append_right _ (List.mem_of_getElem? (i := 644) (by decide +kernel))) (by decide +kernel)
theorem mlX9_1 : Cond.methodLink RX9 1 objectInit ∈ lw_good := lw_good_in (List.mem_append_right _ (List.mem_of_getElem? (i := 647) (by decide +kernel))) (by decide +kernel)
theorem fgX9_39 : sm_Fg RX9 39 9 0 := ⟨_, _, _, _, clX9, by decide, lw_good_in (List.mem_append_right _ (List.mem_of_getElem? (i := 648) (by decide +kernel))) (by decide +kernel)⟩
theorem flX9_39 : sm_Fl RX9 39 9 0 (.int) false := ⟨_, _, _, _, clX9, by decide, rfl, rfl, lw_good_in (List.mem_append_right _ (List.mem_of_getElem? (i := 648) (by decide +kernel))) (by decide +kernel), by decide +kernel⟩
theorem fgX9_7 : sm_Fg RX9 7 9 1 := ⟨_, _, _, _, clX9, by decide, lw_good_in (List.mem_append_right _ (List.mem_of_getElem? (i := 649) (by decide +kernel))) (by decide +kernel)⟩
theorem flX9_7 : sm_Fl RX9 7 9 1 (.array .int) true := ⟨_, _, _, _, clX9, by decide, rfl, rfl, lw_good_in (List.mem_append_right _ (List.mem_of_getElem? (i := 649) (by decide +kernel))) (by decide +kernel), by decide +kernel⟩
theorem fgX9_13 : sm_Fg RX9 13 9 2 := ⟨_, _, _, _, clX9, by decide, lw_good_in (List.mem_append_right _ (List.mem_of_getElem? (i := 650) (by decide +kernel))) (by decide +kernel)⟩
theorem flX9_13 : sm_Fl RX9 13 9 2 (.array .int) true := ⟨_, _, _, _, clX9, by decide, rfl, rfl, lw_good_in (List.mem_append_right _ (List.mem_of_getElem? (i := 650) (by decide +kernel))) (by decide +kernel), by decide +kernel⟩
theorem fgX9_16 : sm_Fg RX9 16 9 3 := ⟨_, _, _, _, clX9, by decide, lw_good_in (List.mem_append_right _ (List.mem_of_getElem? (i := 651) (by decide +kernel))) (by decide +kernel)⟩
theorem flX9_16 : sm_Fl RX9 16 9 3 (.array .int) true := ⟨_, _, _, _, clX9, by decide, rfl, rfl, lw_good_in (List.mem_append_right _ (List.mem_of_getElem? (i := 651) (by decide +kernel))) (by decide +kernel), by decide +kernel⟩
theorem fgX9_124 : sm_Fg RX9 124 9 4 := ⟨_, _, _, _, clX9, by decide, lw_good_in (List.mem_append_right _ (List.mem_of_getElem? (i := 652) (by decide +kernel))) (by decide +kernel)⟩
theorem flX9_124 : sm_Fl RX9 124 9 4 (.int) false := ⟨_, _, _, _, clX9, by decide, rfl, rfl, lw_good_in (List.mem_append_right _ (List.mem_of_getElem? (i := 652) (by decide +kernel))) (by decide +kernel), by decide +kernel⟩
theorem fgX9_19 : sm_Fg RX9 19 9 5 := ⟨_, _, _, _, clX9, by decide, lw_good_in (List.mem_append_right _ (List.mem_of_getElem? (i := 653) (by decide +kernel))) (by decide +kernel)⟩
theorem flX9_19 : sm_Fl RX9 19 9 5 (.array .int) true := ⟨_, _, _, _, clX9, by decide, rfl, rfl, lw_good_in (List.mem_append_right _ (List.mem_of_getElem? (i := 653) (by decide +kernel))) (by decide +kernel), by decide +kernel⟩
theorem fgX9_22 : sm_Fg RX9 22 9 6 := ⟨_, _, _, _, clX9, by decide, lw_good_in (List.mem_append_right _ (List.mem_of_getElem? (i := 654) (by decide +kernel))) (by decide +kernel)⟩
theorem flX9_22 : sm_Fl RX9 22 9 6 (.array .boolean) true := ⟨_, _, _, _, clX9, by decide, rfl, rfl, lw_good_in (List.mem_append_right _ (List.mem_of_getElem? (i := 654) (by decide +kernel))) (by decide +kernel), by decide +kernel⟩
theorem fgX9_26 : sm_Fg RX9 26 9 7 := ⟨_, _, _, _, clX9, by decide, lw_good_in (List.mem_append_right _ (List.mem_of_getElem? (i := 655) (by decide +kernel))) (by decide +kernel)⟩
theorem flX9_26 : sm_Fl RX9 26 9 7 (.array .int) true := ⟨_, _, _, _, clX9, by decide, rfl, rfl, lw_good_in (List.mem_append_right _ (List.mem_of_getElem? (i := 655) (by decide +kernel))) (by decide +kernel), by decide +kernel⟩
theorem fgX9_165 : sm_Fg RX9 165 9 8 := ⟨_, _, _, _, clX9, by decide, lw_good_in (List.mem_append_right _ (List.mem_of_getElem? (i := 656) (by decide +kernel))) (by decide +kernel)⟩
theorem flX9_165 : sm_Fl RX9 165 9 8 (.int) false := ⟨_, _, _, _, clX9, by decide, rfl, rfl, lw_good_in (List.mem_append_right _ (List.mem_of_getElem? (i := 656) (by decide +kernel))) (by decide +kernel), by decide +kernel⟩
theorem fgX9_29 : sm_Fg RX9 29 9 9 := ⟨_, _, _, _, clX9, by decide, lw_good_in (List.mem_append_right _ (List.mem_of_getElem? (i := 657) (by decide +kernel))) (by decide +kernel)⟩
theorem flX9_29 : sm_Fl RX9 29 9 9 (.array .byte) true := ⟨_, _, _, _, clX9, by decide, rfl, rfl, lw_good_in (List.mem_append_right _ (List.mem_of_getElem? (i := 657) (by decide +kernel))) (by decide +kernel), by decide +kernel⟩
theorem fgX9_47 : sm_Fg RX9 47 9 10 := ⟨_, _, _, _, clX9, by decide, lw_good_in (List.mem_append_right _ (List.mem_of_getElem? (i := 658) (by decide +kernel))) (by decide +kernel)⟩
theorem flX9_47 : sm_Fl RX9 47 9 10 (.int) false := ⟨_, _, _, _, clX9, by decide, rfl, rfl, lw_good_in (List.mem_append_right _ (List.mem_of_getElem? (i := 658) (by decide +kernel))) (by decide +kernel), by decide +kernel⟩
theorem fgX9_53 : sm_Fg RX9 53 9 11 := ⟨_, _, _, _, clX9, by decide, lw_good_in (List.mem_append_right _ (List.mem_of_getElem? (i := 659) (by decide +kernel))) (by decide +kernel)⟩
theorem flX9_53 : sm_Fl RX9 53 9 11 (.int) false := ⟨_, _, _, _, clX9, by decide, rfl, rfl, lw_good_in (List.mem_append_right _ (List.mem_of_getElem? (i := 659) (by decide +kernel))) (by decide +kernel), by decide +kernel⟩
theorem fgX9_50 : sm_Fg RX9 50 9 12 := ⟨_, _, _, _, clX9, by decide, lw_good_in (List.mem_append_right _ (List.mem_of_getElem? (i := 660) (by decide +kernel))) (by decide +kernel)⟩
theorem flX9_50 : sm_Fl RX9 50 9 12 (.int) false := ⟨_, _, _, _, clX9, by decide, rfl, rfl, lw_good_in (List.mem_append_right _ (List.mem_of_getElem? (i := 660) (by decide +kernel))) (by decide +kernel), by decide +kernel⟩
theorem fgX9_63 : sm_Fg RX9 63 9 13 := ⟨_, _, _, _, clX9, by decide, lw_good_in (List.mem_append_right _ (List.mem_of_getElem? (i := 661) (by decide +kernel))) (by decide +kernel)⟩
theorem flX9_63 : sm_Fl RX9 63 9 13 (.int) false := ⟨_, _, _, _, clX9, by decide, rfl, rfl, lw_good_in (List.mem_append_right _ (List.mem_of_getElem? (i := 661) (by decide +kernel))) (by decide +kernel), by decide +kernel⟩
theorem fgX9_60 : sm_Fg RX9 60 9 14 := ⟨_, _, _, _, clX9, by decide, lw_good_in (List.mem_append_right _ (List.mem_of_getElem? (i := 662) (by decide +kernel))) (by decide +kernel)⟩
theorem flX9_60 : sm_Fl RX9 60 9 14 (.int) false := ⟨_, _, _, _, clX9, by decide, rfl, rfl, lw_good_in (List.mem_append_right _ (List.mem_of_getElem? (i := 662) (by decide +kernel))) (by decide +kernel), by decide +kernel⟩
theorem fgX9_76 : sm_Fg RX9 76 9 15 := ⟨_, _, _, _, clX9, by decide, lw_good_in (List.mem_append_right _ (List.mem_of_getElem? (i := 663) (by decide +kernel))) (by decide +kernel)⟩
theorem flX9_76 : sm_Fl RX9 76 9 15 (.int) false := ⟨_, _, _, _, clX9, by decide, rfl, rfl, lw_good_in (List.mem_append_right _ (List.mem_of_getElem? (i := 663) (by decide +kernel))) (by decide +kernel), by decide +kernel⟩
theorem fgX9_33 : sm_Fg RX9 33 9 16 := ⟨_, _, _, _, clX9, by decide, lw_good_in (List.mem_append_right _ (List.mem_of_getElem? (i := 664) (by decide +kernel))) (by decide +kernel)⟩
theorem flX9_33 : sm_Fl RX9 33 9 16 (.array .int) true := ⟨_, _, _, _, clX9, by decide, rfl, rfl, lw_good_in (List.mem_append_right _ (List.mem_of_getElem? (i := 664) (by decide +kernel))) (by decide +kernel), by decide +kernel⟩
theorem fgX9_109 : sm_Fg RX9 109 9 17 := ⟨_, _, _, _, clX9, by decide, lw_good_in (List.mem_append_right _ (List.mem_of_getElem? (i := 665) (by decide +kernel))) (by decide +kernel)⟩
theorem flX9_109 : sm_Fl RX9 109 9 17 (.int) false := ⟨_, _, _, _, clX9, by decide, rfl, rfl, lw_good_in (List.mem_append_right _ (List.mem_of_getElem? (i := 665) (by decide +kernel))) (by decide +kernel), by decide +kernel⟩
theorem fgX9_149 : sm_Fg RX9 149 9 18 := ⟨_, _, _, _, clX9, by decide, lw_good_in (List.mem_append_right _ (List.mem_of_getElem? (i := 666) (by decide +kernel))) (by decide +kernel)⟩
theorem flX9_149 : sm_Fl RX9 149 9 18 (.int) false := ⟨_, _, _, _, clX9, by decide, rfl, rfl, lw_good_in (List.mem_append_right _ (List.mem_of_getElem? (i := 666) (by decide +kernel))) (by decide +kernel), by decide +kernel⟩
theorem fgX9_152 : sm_Fg RX9 152 9 19 := ⟨_, _, _, _, clX9, by decide, lw_good_in (List.mem_append_right _ (List.mem_of_getElem? (i := 667) (by decide +kernel))) (by decide +kernel)⟩
theorem flX9_152 : sm_Fl RX9 152 9 19 (.int) false := ⟨_, _, _, _, clX9, by decide, rfl, rfl, lw_good_in (List.mem_append_right _ (List.mem_of_getElem? (i := 667) (by decide +kernel))) (by decide +kernel), by decide +kernel⟩
theorem fgX9_36 : sm_Fg RX9 36 9 20 := ⟨_, _, _, _, clX9, by decide, lw_good_in (List.mem_append_right _ (List.mem_of_getElem? (i := 668) (by decide +kernel))) (by decide +kernel)⟩
theorem flX9_36 : sm_Fl RX9 36 9 20 (.array .int) true := ⟨_, _, _, _, clX9, by decide, rfl, rfl, lw_good_in (List.mem_append_right _ (List.mem_of_getElem? (i := 668) (by decide +kernel))) (by decide +kernel), by decide +kernel⟩
theorem mlL_17 : Cond.methodLink RL 17 mX9_type.1 ∈ lw_good := lw_good_in (List.mem_append_right _ (List.mem_of_getElem? (i := 712) (by decide +kernel))) (by decide +kernel)
theorem mlX9_43 : Cond.methodLink RX9 43 mX9_in.1 ∈ lw_good := lw_good_in (List.mem_append_right _ (List.mem_of_getElem? (i := 716) (by decide +kernel))) (by decide +kernel)
theorem mlL_22 : Cond.methodLink RL 22 mX9_clear.1 ∈ lw_good := lw_good_in (List.mem_append_right _ (List.mem_of_getElem? (i := 719) (by decide +kernel))) (by decide +kernel)
theorem mlL_26 : Cond.methodLink RL 26 mX9_tells.1 ∈ lw_good := lw_good_in (List.mem_append_right _ (List.mem_of_getElem? (i := 723) (by decide +kernel))) (by decide +kernel)
theorem mlX9_96 : Cond.methodLink RX9 96 mX9_reads.1 ∈ lw_good := lw_good_in (List.mem_append_right _ (List.mem_of_getElem? (i := 727) (by decide +kernel))) (by decide +kernel)
theorem mlX9_79 : Cond.methodLink RX9 79 mX9_steps.1 ∈ lw_good := lw_good_in (List.mem_append_right _ (List.mem_of_getElem? (i := 731) (by decide +kernel))) (by decide +kernel)
theorem mlX9_56 : Cond.methodLink RX9 56 mX9_at.1 ∈ lw_good := lw_good_in (List.mem_append_right _ (List.mem_of_getElem? (i := 735) (by decide +kernel))) (by decide +kernel)
theorem mlX9_66 : Cond.methodLink RX9 66 mX9_takesFigures.1 ∈ lw_good := lw_good_in (List.mem_append_right _ (List.mem_of_getElem? (i := 739) (by decide +kernel))) (by decide +kernel)
theorem mlX9_69 : Cond.methodLink RX9 69 mX9_isCaskWord.1 ∈ lw_good := lw_good_in (List.mem_append_right _ (List.mem_of_getElem? (i := 743) (by decide +kernel))) (by decide +kernel)
theorem mlX9_73 : Cond.methodLink RX9 73 mX9_isStandsWord.1 ∈ lw_good := lw_good_in (List.mem_append_right _ (List.mem_of_getElem? (i := 747) (by decide +kernel))) (by decide +kernel)
theorem mlX9_90 : Cond.methodLink RX9 90 mX9_readsCask.1 ∈ lw_good := lw_good_in (List.mem_append_right _ (List.mem_of_getElem? (i := 751) (by decide +kernel))) (by decide +kernel)
theorem mlX9_82 : Cond.methodLink RX9 82 mX9_takes.1 ∈ lw_good := lw_good_in (List.mem_append_right _ (List.mem_of_getElem? (i := 755) (by decide +kernel))) (by decide +kernel)
theorem mlX9_86 : Cond.methodLink RX9 86 mX9_numberIn.1 ∈ lw_good := lw_good_in (List.mem_append_right _ (List.mem_of_getElem? (i := 759) (by decide +kernel))) (by decide +kernel)
theorem mlX9_93 : Cond.methodLink RX9 93 mX9_readsStands.1 ∈ lw_good := lw_good_in (List.mem_append_right _ (List.mem_of_getElem? (i := 763) (by decide +kernel))) (by decide +kernel)
theorem mlX9_100 : Cond.methodLink RX9 100 mX9_notes.1 ∈ lw_good := lw_good_in (List.mem_append_right _ (List.mem_of_getElem? (i := 767) (by decide +kernel))) (by decide +kernel)
theorem mlL_31 : Cond.methodLink RL 31 mX9_fills.1 ∈ lw_good := lw_good_in (List.mem_append_right _ (List.mem_of_getElem? (i := 771) (by decide +kernel))) (by decide +kernel)
theorem mlX9_127 : Cond.methodLink RX9 127 mX9_isCask.1 ∈ lw_good := lw_good_in (List.mem_append_right _ (List.mem_of_getElem? (i := 775) (by decide +kernel))) (by decide +kernel)
theorem mlX9_131 : Cond.methodLink RX9 131 mX9_hold.1 ∈ lw_good := lw_good_in (List.mem_append_right _ (List.mem_of_getElem? (i := 779) (by decide +kernel))) (by decide +kernel)
theorem mlX9_120 : Cond.methodLink RX9 120 mX9_laysNow.1 ∈ lw_good := lw_good_in (List.mem_append_right _ (List.mem_of_getElem? (i := 783) (by decide +kernel))) (by decide +kernel)
theorem mlX9_103 : Cond.methodLink RX9 103 mX9_of.1 ∈ lw_good := lw_good_in (List.mem_append_right _ (List.mem_of_getElem? (i := 787) (by decide +kernel))) (by decide +kernel)
theorem mlX9_116 : Cond.methodLink RX9 116 mX9_lays.1 ∈ lw_good := lw_good_in (List.mem_append_right _ (List.mem_of_getElem? (i := 791) (by decide +kernel))) (by decide +kernel)
theorem mlX9_112 : Cond.methodLink RX9 112 mX9_cellsOf.1 ∈ lw_good := lw_good_in (List.mem_append_right _ (List.mem_of_getElem? (i := 795) (by decide +kernel))) (by decide +kernel)
theorem mlX9_106 : Cond.methodLink RX9 106 mX9_radius.1 ∈ lw_good := lw_good_in (List.mem_append_right _ (List.mem_of_getElem? (i := 799) (by decide +kernel))) (by decide +kernel)
theorem mlL_36 : Cond.methodLink RL 36 mX9_draws.1 ∈ lw_good := lw_good_in (List.mem_append_right _ (List.mem_of_getElem? (i := 803) (by decide +kernel))) (by decide +kernel)
theorem mlX9_134 : Cond.methodLink RX9 134 mX9_goes.1 ∈ lw_good := lw_good_in (List.mem_append_right _ (List.mem_of_getElem? (i := 807) (by decide +kernel))) (by decide +kernel)
theorem mlL_40 : Cond.methodLink RL 40 mX9_pours.1 ∈ lw_good := lw_good_in (List.mem_append_right _ (List.mem_of_getElem? (i := 811) (by decide +kernel))) (by decide +kernel)
theorem mlL_44 : Cond.methodLink RL 44 mX9_turnsOver.1 ∈ lw_good := lw_good_in (List.mem_append_right _ (List.mem_of_getElem? (i := 815) (by decide +kernel))) (by decide +kernel)
theorem mlL_48 : Cond.methodLink RL 48 mX9_undo.1 ∈ lw_good := lw_good_in (List.mem_append_right _ (List.mem_of_getElem? (i := 819) (by decide +kernel))) (by decide +kernel)
theorem mlL_52 : Cond.methodLink RL 52 mX9_cask.1 ∈ lw_good := lw_good_in (List.mem_append_right _ (List.mem_of_getElem? (i := 823) (by decide +kernel))) (by decide +kernel)
theorem mlX9_137 : Cond.methodLink RX9 137 mX9_dipOf.1 ∈ lw_good := lw_good_in (List.mem_append_right _ (List.mem_of_getElem? (i := 827) (by decide +kernel))) (by decide +kernel)
theorem kfX9_140 : Cond.constantFloat RX9 140 1148846080 ∈ lw_good := lw_good_in (List.mem_append_right _ (List.mem_of_getElem? (i := 831) (by decide +kernel))) (by decide +kernel)
theorem mlX9_141 : Cond.methodLink RX9 141 mX9_strength.1 ∈ lw_good := lw_good_in (List.mem_append_right _ (List.mem_of_getElem? (i := 832) (by decide +kernel))) (by decide +kernel)
theorem mlL_56 : Cond.methodLink RL 56 mX9_slice.1 ∈ lw_good := lw_good_in (List.mem_append_right _ (List.mem_of_getElem? (i := 836) (by decide +kernel))) (by decide +kernel)
theorem mlL_60 : Cond.methodLink RL 60 mX9_under.1 ∈ lw_good := lw_good_in (List.mem_append_right _ (List.mem_of_getElem? (i := 840) (by decide +kernel))) (by decide +kernel)
theorem mlX9_145 : Cond.methodLink RX9 145 mX9_isHeight.1 ∈ lw_good := lw_good_in (List.mem_append_right _ (List.mem_of_getElem? (i := 844) (by decide +kernel))) (by decide +kernel)
theorem mlL_64 : Cond.methodLink RL 64 mX9_dip.1 ∈ lw_good := lw_good_in (List.mem_append_right _ (List.mem_of_getElem? (i := 848) (by decide +kernel))) (by decide +kernel)
theorem mlL_68 : Cond.methodLink RL 68 mX9_stick.1 ∈ lw_good := lw_good_in (List.mem_append_right _ (List.mem_of_getElem? (i := 852) (by decide +kernel))) (by decide +kernel)
theorem mlL_72 : Cond.methodLink RL 72 mX9_known.1 ∈ lw_good := lw_good_in (List.mem_append_right _ (List.mem_of_getElem? (i := 856) (by decide +kernel))) (by decide +kernel)
theorem mlL_76 : Cond.methodLink RL 76 mX9_shares.1 ∈ lw_good := lw_good_in (List.mem_append_right _ (List.mem_of_getElem? (i := 860) (by decide +kernel))) (by decide +kernel)
theorem mlX9_155 : Cond.methodLink RX9 155 mX9_mostBy.1 ∈ lw_good := lw_good_in (List.mem_append_right _ (List.mem_of_getElem? (i := 864) (by decide +kernel))) (by decide +kernel)
theorem mlL_80 : Cond.methodLink RL 80 mX9_all.1 ∈ lw_good := lw_good_in (List.mem_append_right _ (List.mem_of_getElem? (i := 868) (by decide +kernel))) (by decide +kernel)
theorem mlX9_158 : Cond.methodLink RX9 158 mX9_strongest.1 ∈ lw_good := lw_good_in (List.mem_append_right _ (List.mem_of_getElem? (i := 872) (by decide +kernel))) (by decide +kernel)
theorem mlX9_161 : Cond.methodLink RX9 161 mX9_mean.1 ∈ lw_good := lw_good_in (List.mem_append_right _ (List.mem_of_getElem? (i := 876) (by decide +kernel))) (by decide +kernel)
theorem mlL_84 : Cond.methodLink RL 84 mX9_sees.1 ∈ lw_good := lw_good_in (List.mem_append_right _ (List.mem_of_getElem? (i := 880) (by decide +kernel))) (by decide +kernel)
theorem kcX9_164 : Cond.constant RX9 164 99999 ∈ lw_good := lw_good_in (List.mem_append_right _ (List.mem_of_getElem? (i := 884) (by decide +kernel))) (by decide +kernel)
theorem mlL_88 : Cond.methodLink RL 88 mX9_forget.1 ∈ lw_good := lw_good_in (List.mem_append_right _ (List.mem_of_getElem? (i := 885) (by decide +kernel))) (by decide +kernel)
theorem mlL_92 : Cond.methodLink RL 92 mX9_which.1 ∈ lw_good := lw_good_in (List.mem_append_right _ (List.mem_of_getElem? (i := 889) (by decide +kernel))) (by decide +kernel)
theorem mlX9_168 : Cond.methodLink RX9 168 mX9_suspects.1 ∈ lw_good := lw_good_in (List.mem_append_right _ (List.mem_of_getElem? (i := 893) (by decide +kernel))) (by decide +kernel)
theorem mlL_96 : Cond.methodLink RL 96 mX9_ask.1 ∈ lw_good := lw_good_in (List.mem_append_right _ (List.mem_of_getElem? (i := 897) (by decide +kernel))) (by decide +kernel)
theorem mlX9_171 : Cond.methodLink RX9 171 mX9_laysDips.1 ∈ lw_good := lw_good_in (List.mem_append_right _ (List.mem_of_getElem? (i := 901) (by decide +kernel))) (by decide +kernel)
theorem mlX9_174 : Cond.methodLink RX9 174 mX9_alike.1 ∈ lw_good := lw_good_in (List.mem_append_right _ (List.mem_of_getElem? (i := 905) (by decide +kernel))) (by decide +kernel)
theorem mlL_100 : Cond.methodLink RL 100 mX9_keep.1 ∈ lw_good := lw_good_in (List.mem_append_right _ (List.mem_of_getElem? (i := 909) (by decide +kernel))) (by decide +kernel)
theorem mlL_104 : Cond.methodLink RL 104 mX9_back.1 ∈ lw_good := lw_good_in (List.mem_append_right _ (List.mem_of_getElem? (i := 913) (by decide +kernel))) (by decide +kernel)
theorem mlL_108 : Cond.methodLink RL 108 mX9_count.1 ∈ lw_good := lw_good_in (List.mem_append_right _ (List.mem_of_getElem? (i := 917) (by decide +kernel))) (by decide +kernel)
theorem mlX9_177 : Cond.methodLink RX9 177 mX9_sum.1 ∈ lw_good := lw_good_in (List.mem_append_right _ (List.mem_of_getElem? (i := 921) (by decide +kernel))) (by decide +kernel)
theorem oi_im : Cond.instanceMethod objectInit ∈ lw_good := lw_good_in (List.mem_append_right _ (List.mem_of_getElem? (i := 23) (by decide +kernel))) (by decide +kernel)
theorem oi_co : Cond.code objectInit ⟨#[0xb1]⟩ 1 none ∈ lw_good := lw_good_in (List.mem_append_right _ (List.mem_of_getElem? (i := 24) (by decide +kernel))) (by decide +kernel)
end
section
theorem i_vc : Claimed_1_1 ∧ Claimed_1_2 := sorry
end
