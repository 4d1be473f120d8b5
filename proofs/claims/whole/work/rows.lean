section
-- ===== PART A: goes FIRST, ahead of the names: the tables' words, and 'selects' of the private methods out of them =====
/-- a private method of a class that the tables say can be made, by its rows of tables_1 -/
def lw_okq (q : MethodName × Nat) : Prop := (q.1.cls ≠ "java/lang/invoke/MethodHandle" ∧ q.1.cls ≠ "java/lang/invoke/VarHandle") ∧ Cond.instantiable q.1.cls q.2 ∈ tables_1 ∧ Cond.privateMethod q.1 ∈ tables_1 ∧ Cond.instanceMethod q.1 ∈ tables_1
theorem lw_p0 : lw_okq (⟨"CaskGauge$Text", "goesOn", "(I)Z"⟩, 5) := ⟨⟨by decide +kernel, by decide +kernel⟩, List.mem_of_getElem? (i := 26) (by decide +kernel), List.mem_of_getElem? (i := 280) (by decide +kernel), List.mem_of_getElem? (i := 281) (by decide +kernel)⟩
theorem lw_p1 : lw_okq (⟨"CaskGauge$Text", "putKind", "(II)V"⟩, 5) := ⟨⟨by decide +kernel, by decide +kernel⟩, List.mem_of_getElem? (i := 26) (by decide +kernel), List.mem_of_getElem? (i := 290) (by decide +kernel), List.mem_of_getElem? (i := 291) (by decide +kernel)⟩
theorem lw_p2 : lw_okq (⟨"CaskGauge$Text", "kindOfWord", "(II)I"⟩, 5) := ⟨⟨by decide +kernel, by decide +kernel⟩, List.mem_of_getElem? (i := 26) (by decide +kernel), List.mem_of_getElem? (i := 294) (by decide +kernel), List.mem_of_getElem? (i := 295) (by decide +kernel)⟩
theorem lw_p3 : lw_okq (⟨"CaskGauge$Text", "isWord", "(Ljava/lang/String;II)Z"⟩, 5) := ⟨⟨by decide +kernel, by decide +kernel⟩, List.mem_of_getElem? (i := 26) (by decide +kernel), List.mem_of_getElem? (i := 299) (by decide +kernel), List.mem_of_getElem? (i := 300) (by decide +kernel)⟩
theorem lw_p4 : lw_okq (⟨"CaskGauge$Text", "kindOfNumber", "(II)I"⟩, 5) := ⟨⟨by decide +kernel, by decide +kernel⟩, List.mem_of_getElem? (i := 26) (by decide +kernel), List.mem_of_getElem? (i := 352) (by decide +kernel), List.mem_of_getElem? (i := 353) (by decide +kernel)⟩
theorem lw_p5 : lw_okq (⟨"CaskGauge$Text", "valueOf", "(II)I"⟩, 5) := ⟨⟨by decide +kernel, by decide +kernel⟩, List.mem_of_getElem? (i := 26) (by decide +kernel), List.mem_of_getElem? (i := 356) (by decide +kernel), List.mem_of_getElem? (i := 357) (by decide +kernel)⟩
theorem lw_p6 : lw_okq (⟨"CaskGauge$Reader", "readItem", "()Z"⟩, 4) := ⟨⟨by decide +kernel, by decide +kernel⟩, List.mem_of_getElem? (i := 53) (by decide +kernel), List.mem_of_getElem? (i := 364) (by decide +kernel), List.mem_of_getElem? (i := 365) (by decide +kernel)⟩
theorem lw_p7 : lw_okq (⟨"CaskGauge$Reader", "readCask", "()Z"⟩, 4) := ⟨⟨by decide +kernel, by decide +kernel⟩, List.mem_of_getElem? (i := 53) (by decide +kernel), List.mem_of_getElem? (i := 368) (by decide +kernel), List.mem_of_getElem? (i := 369) (by decide +kernel)⟩
theorem lw_p8 : lw_okq (⟨"CaskGauge$Reader", "readNumber", "(II)Z"⟩, 4) := ⟨⟨by decide +kernel, by decide +kernel⟩, List.mem_of_getElem? (i := 53) (by decide +kernel), List.mem_of_getElem? (i := 372) (by decide +kernel), List.mem_of_getElem? (i := 373) (by decide +kernel)⟩
theorem lw_p9 : lw_okq (⟨"CaskGauge$Reader", "step", "()V"⟩, 4) := ⟨⟨by decide +kernel, by decide +kernel⟩, List.mem_of_getElem? (i := 53) (by decide +kernel), List.mem_of_getElem? (i := 376) (by decide +kernel), List.mem_of_getElem? (i := 377) (by decide +kernel)⟩
theorem lw_p10 : lw_okq (⟨"CaskGauge$Reader", "readItemEnd", "()Z"⟩, 4) := ⟨⟨by decide +kernel, by decide +kernel⟩, List.mem_of_getElem? (i := 53) (by decide +kernel), List.mem_of_getElem? (i := 380) (by decide +kernel), List.mem_of_getElem? (i := 381) (by decide +kernel)⟩
theorem lw_p11 : lw_okq (⟨"CaskGauge$Reader", "readStands", "()Z"⟩, 4) := ⟨⟨by decide +kernel, by decide +kernel⟩, List.mem_of_getElem? (i := 53) (by decide +kernel), List.mem_of_getElem? (i := 392) (by decide +kernel), List.mem_of_getElem? (i := 393) (by decide +kernel)⟩
theorem lw_p12 : lw_okq (⟨"CaskGauge", "roomIn", "(I)I"⟩, 11) := ⟨⟨by decide +kernel, by decide +kernel⟩, List.mem_of_getElem? (i := 18) (by decide +kernel), List.mem_of_getElem? (i := 426) (by decide +kernel), List.mem_of_getElem? (i := 427) (by decide +kernel)⟩
theorem lw_p13 : lw_okq (⟨"CaskGauge", "levelsOf", "(I)LCaskGauge$Levels;"⟩, 11) := ⟨⟨by decide +kernel, by decide +kernel⟩, List.mem_of_getElem? (i := 18) (by decide +kernel), List.mem_of_getElem? (i := 430) (by decide +kernel), List.mem_of_getElem? (i := 431) (by decide +kernel)⟩
theorem lw_p14 : lw_okq (⟨"CaskGauge", "lyingLevelsOf", "(I)LCaskGauge$Levels;"⟩, 11) := ⟨⟨by decide +kernel, by decide +kernel⟩, List.mem_of_getElem? (i := 18) (by decide +kernel), List.mem_of_getElem? (i := 434) (by decide +kernel), List.mem_of_getElem? (i := 435) (by decide +kernel)⟩
theorem lw_p15 : lw_okq (⟨"CaskGauge$Levels", "addAhead", "(II)V"⟩, 6) := ⟨⟨by decide +kernel, by decide +kernel⟩, List.mem_of_getElem? (i := 170) (by decide +kernel), List.mem_of_getElem? (i := 451) (by decide +kernel), List.mem_of_getElem? (i := 452) (by decide +kernel)⟩
def lw_privs_1 : List (MethodName × Nat) := [(⟨"CaskGauge$Text", "goesOn", "(I)Z"⟩, 5), (⟨"CaskGauge$Text", "putKind", "(II)V"⟩, 5), (⟨"CaskGauge$Text", "kindOfWord", "(II)I"⟩, 5), (⟨"CaskGauge$Text", "isWord", "(Ljava/lang/String;II)Z"⟩, 5), (⟨"CaskGauge$Text", "kindOfNumber", "(II)I"⟩, 5), (⟨"CaskGauge$Text", "valueOf", "(II)I"⟩, 5), (⟨"CaskGauge$Reader", "readItem", "()Z"⟩, 4), (⟨"CaskGauge$Reader", "readCask", "()Z"⟩, 4), (⟨"CaskGauge$Reader", "readNumber", "(II)Z"⟩, 4), (⟨"CaskGauge$Reader", "step", "()V"⟩, 4), (⟨"CaskGauge$Reader", "readItemEnd", "()Z"⟩, 4), (⟨"CaskGauge$Reader", "readStands", "()Z"⟩, 4), (⟨"CaskGauge", "roomIn", "(I)I"⟩, 11), (⟨"CaskGauge", "levelsOf", "(I)LCaskGauge$Levels;"⟩, 11), (⟨"CaskGauge", "lyingLevelsOf", "(I)LCaskGauge$Levels;"⟩, 11), (⟨"CaskGauge$Levels", "addAhead", "(II)V"⟩, 6)]
theorem lw_r1 : ∀ q ∈ lw_privs_1, lw_okq q := List.forall_mem_cons.mpr ⟨lw_p0, List.forall_mem_cons.mpr ⟨lw_p1, List.forall_mem_cons.mpr ⟨lw_p2, List.forall_mem_cons.mpr ⟨lw_p3, List.forall_mem_cons.mpr ⟨lw_p4, List.forall_mem_cons.mpr ⟨lw_p5, List.forall_mem_cons.mpr ⟨lw_p6, List.forall_mem_cons.mpr ⟨lw_p7, List.forall_mem_cons.mpr ⟨lw_p8, List.forall_mem_cons.mpr ⟨lw_p9, List.forall_mem_cons.mpr ⟨lw_p10, List.forall_mem_cons.mpr ⟨lw_p11, List.forall_mem_cons.mpr ⟨lw_p12, List.forall_mem_cons.mpr ⟨lw_p13, List.forall_mem_cons.mpr ⟨lw_p14, List.forall_mem_cons.mpr ⟨lw_p15, fun _ h => absurd h List.not_mem_nil⟩⟩⟩⟩⟩⟩⟩⟩⟩⟩⟩⟩⟩⟩⟩⟩
theorem lw_p16 : lw_okq (⟨"CaskGauge$Sharing", "weigh", "(LCaskGauge$Levels;III)V"⟩, 5) := ⟨⟨by decide +kernel, by decide +kernel⟩, List.mem_of_getElem? (i := 195) (by decide +kernel), List.mem_of_getElem? (i := 557) (by decide +kernel), List.mem_of_getElem? (i := 558) (by decide +kernel)⟩
theorem lw_p17 : lw_okq (⟨"CaskGauge", "startAsking", "()V"⟩, 11) := ⟨⟨by decide +kernel, by decide +kernel⟩, List.mem_of_getElem? (i := 18) (by decide +kernel), List.mem_of_getElem? (i := 609) (by decide +kernel), List.mem_of_getElem? (i := 610) (by decide +kernel)⟩
theorem lw_p18 : lw_okq (⟨"CaskGauge", "mostAlike", "(I)I"⟩, 11) := ⟨⟨by decide +kernel, by decide +kernel⟩, List.mem_of_getElem? (i := 18) (by decide +kernel), List.mem_of_getElem? (i := 613) (by decide +kernel), List.mem_of_getElem? (i := 614) (by decide +kernel)⟩
theorem lw_p19 : lw_okq (⟨"CaskGauge", "raiseAskedDips", "(I)Z"⟩, 11) := ⟨⟨by decide +kernel, by decide +kernel⟩, List.mem_of_getElem? (i := 18) (by decide +kernel), List.mem_of_getElem? (i := 618) (by decide +kernel), List.mem_of_getElem? (i := 619) (by decide +kernel)⟩
theorem lw_p20 : lw_okq (⟨"CaskGaugeModel", "reads", "()I"⟩, 21) := ⟨⟨by decide +kernel, by decide +kernel⟩, List.mem_of_getElem? (i := 643) (by decide +kernel), List.mem_of_getElem? (i := 728) (by decide +kernel), List.mem_of_getElem? (i := 729) (by decide +kernel)⟩
theorem lw_p21 : lw_okq (⟨"CaskGaugeModel", "steps", "()V"⟩, 21) := ⟨⟨by decide +kernel, by decide +kernel⟩, List.mem_of_getElem? (i := 643) (by decide +kernel), List.mem_of_getElem? (i := 732) (by decide +kernel), List.mem_of_getElem? (i := 733) (by decide +kernel)⟩
theorem lw_p22 : lw_okq (⟨"CaskGaugeModel", "at", "(I)I"⟩, 21) := ⟨⟨by decide +kernel, by decide +kernel⟩, List.mem_of_getElem? (i := 643) (by decide +kernel), List.mem_of_getElem? (i := 736) (by decide +kernel), List.mem_of_getElem? (i := 737) (by decide +kernel)⟩
theorem lw_p23 : lw_okq (⟨"CaskGaugeModel", "takesFigures", "()V"⟩, 21) := ⟨⟨by decide +kernel, by decide +kernel⟩, List.mem_of_getElem? (i := 643) (by decide +kernel), List.mem_of_getElem? (i := 740) (by decide +kernel), List.mem_of_getElem? (i := 741) (by decide +kernel)⟩
theorem lw_p24 : lw_okq (⟨"CaskGaugeModel", "isCaskWord", "()Z"⟩, 21) := ⟨⟨by decide +kernel, by decide +kernel⟩, List.mem_of_getElem? (i := 643) (by decide +kernel), List.mem_of_getElem? (i := 744) (by decide +kernel), List.mem_of_getElem? (i := 745) (by decide +kernel)⟩
theorem lw_p25 : lw_okq (⟨"CaskGaugeModel", "isStandsWord", "()Z"⟩, 21) := ⟨⟨by decide +kernel, by decide +kernel⟩, List.mem_of_getElem? (i := 643) (by decide +kernel), List.mem_of_getElem? (i := 748) (by decide +kernel), List.mem_of_getElem? (i := 749) (by decide +kernel)⟩
theorem lw_p26 : lw_okq (⟨"CaskGaugeModel", "readsCask", "()V"⟩, 21) := ⟨⟨by decide +kernel, by decide +kernel⟩, List.mem_of_getElem? (i := 643) (by decide +kernel), List.mem_of_getElem? (i := 752) (by decide +kernel), List.mem_of_getElem? (i := 753) (by decide +kernel)⟩
theorem lw_p27 : lw_okq (⟨"CaskGaugeModel", "takes", "(Z)V"⟩, 21) := ⟨⟨by decide +kernel, by decide +kernel⟩, List.mem_of_getElem? (i := 643) (by decide +kernel), List.mem_of_getElem? (i := 756) (by decide +kernel), List.mem_of_getElem? (i := 757) (by decide +kernel)⟩
theorem lw_p28 : lw_okq (⟨"CaskGaugeModel", "numberIn", "(II)I"⟩, 21) := ⟨⟨by decide +kernel, by decide +kernel⟩, List.mem_of_getElem? (i := 643) (by decide +kernel), List.mem_of_getElem? (i := 760) (by decide +kernel), List.mem_of_getElem? (i := 761) (by decide +kernel)⟩
theorem lw_p29 : lw_okq (⟨"CaskGaugeModel", "readsStands", "()V"⟩, 21) := ⟨⟨by decide +kernel, by decide +kernel⟩, List.mem_of_getElem? (i := 643) (by decide +kernel), List.mem_of_getElem? (i := 764) (by decide +kernel), List.mem_of_getElem? (i := 765) (by decide +kernel)⟩
theorem lw_p30 : lw_okq (⟨"CaskGaugeModel", "notes", "()V"⟩, 21) := ⟨⟨by decide +kernel, by decide +kernel⟩, List.mem_of_getElem? (i := 643) (by decide +kernel), List.mem_of_getElem? (i := 768) (by decide +kernel), List.mem_of_getElem? (i := 769) (by decide +kernel)⟩
theorem lw_p31 : lw_okq (⟨"CaskGaugeModel", "isCask", "(I)Z"⟩, 21) := ⟨⟨by decide +kernel, by decide +kernel⟩, List.mem_of_getElem? (i := 643) (by decide +kernel), List.mem_of_getElem? (i := 776) (by decide +kernel), List.mem_of_getElem? (i := 777) (by decide +kernel)⟩
def lw_privs_2 : List (MethodName × Nat) := [(⟨"CaskGauge$Sharing", "weigh", "(LCaskGauge$Levels;III)V"⟩, 5), (⟨"CaskGauge", "startAsking", "()V"⟩, 11), (⟨"CaskGauge", "mostAlike", "(I)I"⟩, 11), (⟨"CaskGauge", "raiseAskedDips", "(I)Z"⟩, 11), (⟨"CaskGaugeModel", "reads", "()I"⟩, 21), (⟨"CaskGaugeModel", "steps", "()V"⟩, 21), (⟨"CaskGaugeModel", "at", "(I)I"⟩, 21), (⟨"CaskGaugeModel", "takesFigures", "()V"⟩, 21), (⟨"CaskGaugeModel", "isCaskWord", "()Z"⟩, 21), (⟨"CaskGaugeModel", "isStandsWord", "()Z"⟩, 21), (⟨"CaskGaugeModel", "readsCask", "()V"⟩, 21), (⟨"CaskGaugeModel", "takes", "(Z)V"⟩, 21), (⟨"CaskGaugeModel", "numberIn", "(II)I"⟩, 21), (⟨"CaskGaugeModel", "readsStands", "()V"⟩, 21), (⟨"CaskGaugeModel", "notes", "()V"⟩, 21), (⟨"CaskGaugeModel", "isCask", "(I)Z"⟩, 21)]
theorem lw_r2 : ∀ q ∈ lw_privs_2, lw_okq q := List.forall_mem_cons.mpr ⟨lw_p16, List.forall_mem_cons.mpr ⟨lw_p17, List.forall_mem_cons.mpr ⟨lw_p18, List.forall_mem_cons.mpr ⟨lw_p19, List.forall_mem_cons.mpr ⟨lw_p20, List.forall_mem_cons.mpr ⟨lw_p21, List.forall_mem_cons.mpr ⟨lw_p22, List.forall_mem_cons.mpr ⟨lw_p23, List.forall_mem_cons.mpr ⟨lw_p24, List.forall_mem_cons.mpr ⟨lw_p25, List.forall_mem_cons.mpr ⟨lw_p26, List.forall_mem_cons.mpr ⟨lw_p27, List.forall_mem_cons.mpr ⟨lw_p28, List.forall_mem_cons.mpr ⟨lw_p29, List.forall_mem_cons.mpr ⟨lw_p30, List.forall_mem_cons.mpr ⟨lw_p31, fun _ h => absurd h List.not_mem_nil⟩⟩⟩⟩⟩⟩⟩⟩⟩⟩⟩⟩⟩⟩⟩⟩
theorem lw_p32 : lw_okq (⟨"CaskGaugeModel", "hold", "(I)I"⟩, 21) := ⟨⟨by decide +kernel, by decide +kernel⟩, List.mem_of_getElem? (i := 643) (by decide +kernel), List.mem_of_getElem? (i := 780) (by decide +kernel), List.mem_of_getElem? (i := 781) (by decide +kernel)⟩
theorem lw_p33 : lw_okq (⟨"CaskGaugeModel", "laysNow", "(I)V"⟩, 21) := ⟨⟨by decide +kernel, by decide +kernel⟩, List.mem_of_getElem? (i := 643) (by decide +kernel), List.mem_of_getElem? (i := 784) (by decide +kernel), List.mem_of_getElem? (i := 785) (by decide +kernel)⟩
theorem lw_p34 : lw_okq (⟨"CaskGaugeModel", "of", "(II)I"⟩, 21) := ⟨⟨by decide +kernel, by decide +kernel⟩, List.mem_of_getElem? (i := 643) (by decide +kernel), List.mem_of_getElem? (i := 788) (by decide +kernel), List.mem_of_getElem? (i := 789) (by decide +kernel)⟩
theorem lw_p35 : lw_okq (⟨"CaskGaugeModel", "lays", "(IZ)V"⟩, 21) := ⟨⟨by decide +kernel, by decide +kernel⟩, List.mem_of_getElem? (i := 643) (by decide +kernel), List.mem_of_getElem? (i := 792) (by decide +kernel), List.mem_of_getElem? (i := 793) (by decide +kernel)⟩
theorem lw_p36 : lw_okq (⟨"CaskGaugeModel", "cellsOf", "(III)I"⟩, 21) := ⟨⟨by decide +kernel, by decide +kernel⟩, List.mem_of_getElem? (i := 643) (by decide +kernel), List.mem_of_getElem? (i := 796) (by decide +kernel), List.mem_of_getElem? (i := 797) (by decide +kernel)⟩
theorem lw_p37 : lw_okq (⟨"CaskGaugeModel", "radius", "(II)I"⟩, 21) := ⟨⟨by decide +kernel, by decide +kernel⟩, List.mem_of_getElem? (i := 643) (by decide +kernel), List.mem_of_getElem? (i := 800) (by decide +kernel), List.mem_of_getElem? (i := 801) (by decide +kernel)⟩
theorem lw_p38 : lw_okq (⟨"CaskGaugeModel", "goes", "(II)I"⟩, 21) := ⟨⟨by decide +kernel, by decide +kernel⟩, List.mem_of_getElem? (i := 643) (by decide +kernel), List.mem_of_getElem? (i := 808) (by decide +kernel), List.mem_of_getElem? (i := 809) (by decide +kernel)⟩
theorem lw_p39 : lw_okq (⟨"CaskGaugeModel", "dipOf", "(I)I"⟩, 21) := ⟨⟨by decide +kernel, by decide +kernel⟩, List.mem_of_getElem? (i := 643) (by decide +kernel), List.mem_of_getElem? (i := 828) (by decide +kernel), List.mem_of_getElem? (i := 829) (by decide +kernel)⟩
theorem lw_p40 : lw_okq (⟨"CaskGaugeModel", "strength", "(I)F"⟩, 21) := ⟨⟨by decide +kernel, by decide +kernel⟩, List.mem_of_getElem? (i := 643) (by decide +kernel), List.mem_of_getElem? (i := 833) (by decide +kernel), List.mem_of_getElem? (i := 834) (by decide +kernel)⟩
theorem lw_p41 : lw_okq (⟨"CaskGaugeModel", "isHeight", "(II)Z"⟩, 21) := ⟨⟨by decide +kernel, by decide +kernel⟩, List.mem_of_getElem? (i := 643) (by decide +kernel), List.mem_of_getElem? (i := 845) (by decide +kernel), List.mem_of_getElem? (i := 846) (by decide +kernel)⟩
theorem lw_p42 : lw_okq (⟨"CaskGaugeModel", "mostBy", "(III)I"⟩, 21) := ⟨⟨by decide +kernel, by decide +kernel⟩, List.mem_of_getElem? (i := 643) (by decide +kernel), List.mem_of_getElem? (i := 865) (by decide +kernel), List.mem_of_getElem? (i := 866) (by decide +kernel)⟩
theorem lw_p43 : lw_okq (⟨"CaskGaugeModel", "strongest", "()I"⟩, 21) := ⟨⟨by decide +kernel, by decide +kernel⟩, List.mem_of_getElem? (i := 643) (by decide +kernel), List.mem_of_getElem? (i := 873) (by decide +kernel), List.mem_of_getElem? (i := 874) (by decide +kernel)⟩
theorem lw_p44 : lw_okq (⟨"CaskGaugeModel", "mean", "()I"⟩, 21) := ⟨⟨by decide +kernel, by decide +kernel⟩, List.mem_of_getElem? (i := 643) (by decide +kernel), List.mem_of_getElem? (i := 877) (by decide +kernel), List.mem_of_getElem? (i := 878) (by decide +kernel)⟩
theorem lw_p45 : lw_okq (⟨"CaskGaugeModel", "suspects", "()I"⟩, 21) := ⟨⟨by decide +kernel, by decide +kernel⟩, List.mem_of_getElem? (i := 643) (by decide +kernel), List.mem_of_getElem? (i := 894) (by decide +kernel), List.mem_of_getElem? (i := 895) (by decide +kernel)⟩
theorem lw_p46 : lw_okq (⟨"CaskGaugeModel", "laysDips", "()V"⟩, 21) := ⟨⟨by decide +kernel, by decide +kernel⟩, List.mem_of_getElem? (i := 643) (by decide +kernel), List.mem_of_getElem? (i := 902) (by decide +kernel), List.mem_of_getElem? (i := 903) (by decide +kernel)⟩
theorem lw_p47 : lw_okq (⟨"CaskGaugeModel", "alike", "(II)I"⟩, 21) := ⟨⟨by decide +kernel, by decide +kernel⟩, List.mem_of_getElem? (i := 643) (by decide +kernel), List.mem_of_getElem? (i := 906) (by decide +kernel), List.mem_of_getElem? (i := 907) (by decide +kernel)⟩
def lw_privs_3 : List (MethodName × Nat) := [(⟨"CaskGaugeModel", "hold", "(I)I"⟩, 21), (⟨"CaskGaugeModel", "laysNow", "(I)V"⟩, 21), (⟨"CaskGaugeModel", "of", "(II)I"⟩, 21), (⟨"CaskGaugeModel", "lays", "(IZ)V"⟩, 21), (⟨"CaskGaugeModel", "cellsOf", "(III)I"⟩, 21), (⟨"CaskGaugeModel", "radius", "(II)I"⟩, 21), (⟨"CaskGaugeModel", "goes", "(II)I"⟩, 21), (⟨"CaskGaugeModel", "dipOf", "(I)I"⟩, 21), (⟨"CaskGaugeModel", "strength", "(I)F"⟩, 21), (⟨"CaskGaugeModel", "isHeight", "(II)Z"⟩, 21), (⟨"CaskGaugeModel", "mostBy", "(III)I"⟩, 21), (⟨"CaskGaugeModel", "strongest", "()I"⟩, 21), (⟨"CaskGaugeModel", "mean", "()I"⟩, 21), (⟨"CaskGaugeModel", "suspects", "()I"⟩, 21), (⟨"CaskGaugeModel", "laysDips", "()V"⟩, 21), (⟨"CaskGaugeModel", "alike", "(II)I"⟩, 21)]
theorem lw_r3 : ∀ q ∈ lw_privs_3, lw_okq q := List.forall_mem_cons.mpr ⟨lw_p32, List.forall_mem_cons.mpr ⟨lw_p33, List.forall_mem_cons.mpr ⟨lw_p34, List.forall_mem_cons.mpr ⟨lw_p35, List.forall_mem_cons.mpr ⟨lw_p36, List.forall_mem_cons.mpr ⟨lw_p37, List.forall_mem_cons.mpr ⟨lw_p38, List.forall_mem_cons.mpr ⟨lw_p39, List.forall_mem_cons.mpr ⟨lw_p40, List.forall_mem_cons.mpr ⟨lw_p41, List.forall_mem_cons.mpr ⟨lw_p42, List.forall_mem_cons.mpr ⟨lw_p43, List.forall_mem_cons.mpr ⟨lw_p44, List.forall_mem_cons.mpr ⟨lw_p45, List.forall_mem_cons.mpr ⟨lw_p46, List.forall_mem_cons.mpr ⟨lw_p47, fun _ h => absurd h List.not_mem_nil⟩⟩⟩⟩⟩⟩⟩⟩⟩⟩⟩⟩⟩⟩⟩⟩
theorem lw_p48 : lw_okq (⟨"CaskGaugeModel", "sum", "(I)I"⟩, 21) := ⟨⟨by decide +kernel, by decide +kernel⟩, List.mem_of_getElem? (i := 643) (by decide +kernel), List.mem_of_getElem? (i := 922) (by decide +kernel), List.mem_of_getElem? (i := 923) (by decide +kernel)⟩
def lw_privs_4 : List (MethodName × Nat) := [(⟨"CaskGaugeModel", "sum", "(I)I"⟩, 21)]
theorem lw_r4 : ∀ q ∈ lw_privs_4, lw_okq q := List.forall_mem_cons.mpr ⟨lw_p48, fun _ h => absurd h List.not_mem_nil⟩
def lw_privs : List (MethodName × Nat) := lw_privs_1 ++ (lw_privs_2 ++ (lw_privs_3 ++ (lw_privs_4)))
def lw_tbl : List Cond := k2_sels lw_privs ++ tables_1
theorem lw_privs_ok : ∀ q ∈ lw_privs, lw_okq q := by
  show ∀ q ∈ lw_privs_1 ++ (lw_privs_2 ++ (lw_privs_3 ++ (lw_privs_4))), lw_okq q
  exact List.forall_mem_append.mpr ⟨lw_r1, List.forall_mem_append.mpr ⟨lw_r2, List.forall_mem_append.mpr ⟨lw_r3, lw_r4⟩⟩⟩
/-- the streams that the claim lets the run draw from -/
abbrev lw_cs : List Choice := [Jvm.Choice.named "NaN.bits"]
theorem lw_bits : nanBits ∈ lw_cs := by first | decide | exact List.mem_cons_self | simp [lw_cs, nanBits]
end
section
def RX0 : String := "CaskGauge$Cask"
def TX0 : u_T := fun k => match k with
  | 0 => ("CaskGauge$Cask", "slices", "I", false)
  | 1 => ("CaskGauge$Cask", "head", "I", false)
  | 2 => ("CaskGauge$Cask", "belly", "I", false)
  | 3 => ("CaskGauge$Cask", "lies", "Z", false)
  | 4 => ("CaskGauge$Cask", "wine", "I", false)
  | _ => ("CaskGauge$Cask", "spirit", "I", false)
def tyX0 : Nat → FieldType := fun k => match k with
  | 0 => .int
  | 1 => .int
  | 2 => .int
  | 3 => .boolean
  | 4 => .int
  | _ => .int
abbrev wsX00 : List Cond := u_ws RX0 TX0 6
theorem nmX0 : ∀ a, a < 6 → ∀ b, b < 6 → a ≠ b → (TX0 a).2.1 ≠ (TX0 b).2.1 := by decide +kernel
theorem tyX0_ok : ∀ k, k < 6 → parseFieldDescriptor (TX0 k).2.2.1 = some (tyX0 k) := by decide +kernel
abbrev cX0_init : ByteArray := prog_2_method_1_code
def yX0_init : MethodName := ⟨RX0, "<init>", "()V"⟩
abbrev cX0_becomeNew : ByteArray := prog_2_method_2_code
def yX0_becomeNew : MethodName := ⟨RX0, "becomeNew", "(III)V"⟩
abbrev cX0_copyFrom : ByteArray := prog_2_method_3_code
def yX0_copyFrom : MethodName := ⟨RX0, "copyFrom", "(LCaskGauge$Cask;)V"⟩
abbrev cX0_radiusOf : ByteArray := prog_2_method_4_code
def yX0_radiusOf : MethodName := ⟨RX0, "radiusOf", "(I)I"⟩
abbrev cX0_cellsOf : ByteArray := prog_2_method_5_code
def yX0_cellsOf : MethodName := ⟨RX0, "cellsOf", "(II)I"⟩
abbrev cX0_takeIn : ByteArray := prog_2_method_6_code
def yX0_takeIn : MethodName := ⟨RX0, "takeIn", "(II)V"⟩
abbrev cX0_giveOut : ByteArray := prog_2_method_7_code
def yX0_giveOut : MethodName := ⟨RX0, "giveOut", "(I)I"⟩
abbrev cX0_strength : ByteArray := prog_2_method_8_code
def yX0_strength : MethodName := ⟨RX0, "strength", "()F"⟩
def RX1 : String := "CaskGauge$Cellar"
def TX1 : u_T := fun k => match k with
  | 0 => ("CaskGauge$Cellar", "casks", "[LCaskGauge$Cask;", true)
  | _ => ("CaskGauge$Cellar", "size", "I", false)
def tyX1 : Nat → FieldType := fun k => match k with
  | 0 => .array (.object "CaskGauge$Cask")
  | _ => .int
abbrev wsX10 : List Cond := u_ws RX1 TX1 2
theorem nmX1 : ∀ a, a < 2 → ∀ b, b < 2 → a ≠ b → (TX1 a).2.1 ≠ (TX1 b).2.1 := by decide +kernel
theorem tyX1_ok : ∀ k, k < 2 → parseFieldDescriptor (TX1 k).2.2.1 = some (tyX1 k) := by decide +kernel
abbrev cX1_init : ByteArray := prog_3_method_1_code
def yX1_init : MethodName := ⟨RX1, "<init>", "()V"⟩
abbrev cX1_has : ByteArray := prog_3_method_2_code
def yX1_has : MethodName := ⟨RX1, "has", "(I)Z"⟩
abbrev cX1_empty : ByteArray := prog_3_method_3_code
def yX1_empty : MethodName := ⟨RX1, "empty", "()V"⟩
abbrev cX1_add : ByteArray := prog_3_method_4_code
def yX1_add : MethodName := ⟨RX1, "add", "(III)Z"⟩
abbrev cX1_copyFrom : ByteArray := prog_3_method_5_code
def yX1_copyFrom : MethodName := ⟨RX1, "copyFrom", "(LCaskGauge$Cellar;)V"⟩
abbrev cX1_allWine : ByteArray := prog_3_method_6_code
def yX1_allWine : MethodName := ⟨RX1, "allWine", "()I"⟩
abbrev cX1_allSpirit : ByteArray := prog_3_method_7_code
def yX1_allSpirit : MethodName := ⟨RX1, "allSpirit", "()I"⟩
abbrev cX1_strongest : ByteArray := prog_3_method_8_code
def yX1_strongest : MethodName := ⟨RX1, "strongest", "()I"⟩
abbrev cX1_meanStrength : ByteArray := prog_3_method_9_code
def yX1_meanStrength : MethodName := ⟨RX1, "meanStrength", "()F"⟩
def RX2 : String := "CaskGauge$Levels"
def TX2 : u_T := fun k => match k with
  | 0 => ("CaskGauge$Levels", "lying", "Z", true)
  | 1 => ("CaskGauge$Levels", "amounts", "[I", true)
  | 2 => ("CaskGauge$Levels", "slices", "I", false)
  | 3 => ("CaskGauge$Levels", "head", "I", false)
  | 4 => ("CaskGauge$Levels", "belly", "I", false)
  | _ => ("CaskGauge$Levels", "top", "I", false)
def tyX2 : Nat → FieldType := fun k => match k with
  | 0 => .boolean
  | 1 => .array .int
  | 2 => .int
  | 3 => .int
  | 4 => .int
  | _ => .int
abbrev wsX20 : List Cond := u_ws RX2 TX2 6
theorem nmX2 : ∀ a, a < 6 → ∀ b, b < 6 → a ≠ b → (TX2 a).2.1 ≠ (TX2 b).2.1 := by decide +kernel
theorem tyX2_ok : ∀ k, k < 6 → parseFieldDescriptor (TX2 k).2.2.1 = some (tyX2 k) := by decide +kernel
abbrev cX2_init : ByteArray := prog_4_method_1_code
def yX2_init : MethodName := ⟨RX2, "<init>", "(Z)V"⟩
abbrev cX2_measure : ByteArray := prog_4_method_2_code
def yX2_measure : MethodName := ⟨RX2, "measure", "(LCaskGauge$Cask;)V"⟩
abbrev cX2_addAhead : ByteArray := prog_4_method_3_code
def yX2_addAhead : MethodName := ⟨RX2, "addAhead", "(II)V"⟩
abbrev cX2_reach : ByteArray := prog_4_method_4_code
def yX2_reach : MethodName := ⟨RX2, "reach", "(I)Z"⟩
abbrev cX2_amountAt : ByteArray := prog_4_method_5_code
def yX2_amountAt : MethodName := ⟨RX2, "amountAt", "(I)I"⟩
abbrev cX2_hold : ByteArray := prog_4_method_6_code
def yX2_hold : MethodName := ⟨RX2, "hold", "()I"⟩
abbrev cX2_leastDip : ByteArray := prog_4_method_7_code
def yX2_leastDip : MethodName := ⟨RX2, "leastDip", "(I)I"⟩
abbrev cX2_leastDipFrom : ByteArray := prog_4_method_8_code
def yX2_leastDipFrom : MethodName := ⟨RX2, "leastDipFrom", "(II)I"⟩
abbrev cX2_markAt : ByteArray := prog_4_method_9_code
def yX2_markAt : MethodName := ⟨RX2, "markAt", "(II)I"⟩
def RX3 : String := "CaskGauge$Past"
def TX3 : u_T := fun k => match k with
  | 0 => ("CaskGauge$Past", "cellars", "[LCaskGauge$Cellar;", true)
  | 1 => ("CaskGauge$Past", "latest", "I", false)
  | _ => ("CaskGauge$Past", "size", "I", false)
def tyX3 : Nat → FieldType := fun k => match k with
  | 0 => .array (.object "CaskGauge$Cellar")
  | 1 => .int
  | _ => .int
abbrev wsX30 : List Cond := u_ws RX3 TX3 3
theorem nmX3 : ∀ a, a < 3 → ∀ b, b < 3 → a ≠ b → (TX3 a).2.1 ≠ (TX3 b).2.1 := by decide +kernel
theorem tyX3_ok : ∀ k, k < 3 → parseFieldDescriptor (TX3 k).2.2.1 = some (tyX3 k) := by decide +kernel
abbrev cX3_init : ByteArray := prog_5_method_1_code
def yX3_init : MethodName := ⟨RX3, "<init>", "()V"⟩
abbrev cX3_remember : ByteArray := prog_5_method_2_code
def yX3_remember : MethodName := ⟨RX3, "remember", "(LCaskGauge$Cellar;)V"⟩
abbrev cX3_recallInto : ByteArray := prog_5_method_3_code
def yX3_recallInto : MethodName := ⟨RX3, "recallInto", "(LCaskGauge$Cellar;)Z"⟩
def RX4 : String := "CaskGauge$Reader"
def TX4 : u_T := fun k => match k with
  | 0 => ("CaskGauge$Reader", "told", "LCaskGauge$Cellar;", true)
  | 1 => ("CaskGauge$Reader", "items", "I", false)
  | 2 => ("CaskGauge$Reader", "text", "LCaskGauge$Text;", true)
  | _ => ("CaskGauge$Reader", "token", "I", false)
def tyX4 : Nat → FieldType := fun k => match k with
  | 0 => .object "CaskGauge$Cellar"
  | 1 => .int
  | 2 => .object "CaskGauge$Text"
  | _ => .int
abbrev wsX40 : List Cond := u_ws RX4 TX4 4
theorem nmX4 : ∀ a, a < 4 → ∀ b, b < 4 → a ≠ b → (TX4 a).2.1 ≠ (TX4 b).2.1 := by decide +kernel
theorem tyX4_ok : ∀ k, k < 4 → parseFieldDescriptor (TX4 k).2.2.1 = some (tyX4 k) := by decide +kernel
abbrev cX4_init : ByteArray := prog_6_method_1_code
def yX4_init : MethodName := ⟨RX4, "<init>", "(LCaskGauge$Text;)V"⟩
abbrev cX4_readAll : ByteArray := prog_6_method_2_code
def yX4_readAll : MethodName := ⟨RX4, "readAll", "()Z"⟩
abbrev cX4_faultPlace : ByteArray := prog_6_method_3_code
def yX4_faultPlace : MethodName := ⟨RX4, "faultPlace", "()I"⟩
abbrev cX4_readItem : ByteArray := prog_6_method_4_code
def yX4_readItem : MethodName := ⟨RX4, "readItem", "()Z"⟩
abbrev cX4_readCask : ByteArray := prog_6_method_5_code
def yX4_readCask : MethodName := ⟨RX4, "readCask", "()Z"⟩
abbrev cX4_readStands : ByteArray := prog_6_method_6_code
def yX4_readStands : MethodName := ⟨RX4, "readStands", "()Z"⟩
abbrev cX4_readNumber : ByteArray := prog_6_method_7_code
def yX4_readNumber : MethodName := ⟨RX4, "readNumber", "(II)Z"⟩
abbrev cX4_readItemEnd : ByteArray := prog_6_method_8_code
def yX4_readItemEnd : MethodName := ⟨RX4, "readItemEnd", "()Z"⟩
abbrev cX4_step : ByteArray := prog_6_method_9_code
def yX4_step : MethodName := ⟨RX4, "step", "()V"⟩
def RX5 : String := "CaskGauge$Sharing"
def TX5 : u_T := fun k => match k with
  | 0 => ("CaskGauge$Sharing", "greatest", "I", false)
  | 1 => ("CaskGauge$Sharing", "y", "I", false)
  | 2 => ("CaskGauge$Sharing", "z", "I", false)
  | 3 => ("CaskGauge$Sharing", "first", "I", false)
  | _ => ("CaskGauge$Sharing", "last", "I", false)
def tyX5 : Nat → FieldType := fun k => match k with
  | 0 => .int
  | 1 => .int
  | 2 => .int
  | 3 => .int
  | _ => .int
abbrev wsX50 : List Cond := u_ws RX5 TX5 5
theorem nmX5 : ∀ a, a < 5 → ∀ b, b < 5 → a ≠ b → (TX5 a).2.1 ≠ (TX5 b).2.1 := by decide +kernel
theorem tyX5_ok : ∀ k, k < 5 → parseFieldDescriptor (TX5 k).2.2.1 = some (tyX5 k) := by decide +kernel
abbrev cX5_init : ByteArray := prog_7_method_1_code
def yX5_init : MethodName := ⟨RX5, "<init>", "()V"⟩
abbrev cX5_findFairest : ByteArray := prog_7_method_2_code
def yX5_findFairest : MethodName := ⟨RX5, "findFairest", "(LCaskGauge$Levels;II)V"⟩
abbrev cX5_weigh : ByteArray := prog_7_method_3_code
def yX5_weigh : MethodName := ⟨RX5, "weigh", "(LCaskGauge$Levels;III)V"⟩
def RX6 : String := "CaskGauge$Sightings"
def TX6 : u_T := fun k => match k with
  | 0 => ("CaskGauge$Sightings", "amounts", "[I", true)
  | 1 => ("CaskGauge$Sightings", "dips", "[I", true)
  | _ => ("CaskGauge$Sightings", "size", "I", false)
def tyX6 : Nat → FieldType := fun k => match k with
  | 0 => .array .int
  | 1 => .array .int
  | _ => .int
abbrev wsX60 : List Cond := u_ws RX6 TX6 3
theorem nmX6 : ∀ a, a < 3 → ∀ b, b < 3 → a ≠ b → (TX6 a).2.1 ≠ (TX6 b).2.1 := by decide +kernel
theorem tyX6_ok : ∀ k, k < 3 → parseFieldDescriptor (TX6 k).2.2.1 = some (tyX6 k) := by decide +kernel
abbrev cX6_init : ByteArray := prog_8_method_1_code
def yX6_init : MethodName := ⟨RX6, "<init>", "()V"⟩
abbrev cX6_add : ByteArray := prog_8_method_2_code
def yX6_add : MethodName := ⟨RX6, "add", "(II)Z"⟩
abbrev cX6_fits : ByteArray := prog_8_method_3_code
def yX6_fits : MethodName := ⟨RX6, "fits", "(LCaskGauge$Levels;)Z"⟩
def RX7 : String := "CaskGauge$Text"
def TX7 : u_T := fun k => match k with
  | 0 => ("CaskGauge$Text", "letters", "[I", true)
  | 1 => ("CaskGauge$Text", "length", "I", false)
  | 2 => ("CaskGauge$Text", "kinds", "[I", true)
  | 3 => ("CaskGauge$Text", "places", "[I", true)
  | _ => ("CaskGauge$Text", "values", "[I", true)
def tyX7 : Nat → FieldType := fun k => match k with
  | 0 => .array .int
  | 1 => .int
  | 2 => .array .int
  | 3 => .array .int
  | _ => .array .int
abbrev wsX70 : List Cond := u_ws RX7 TX7 5
theorem nmX7 : ∀ a, a < 5 → ∀ b, b < 5 → a ≠ b → (TX7 a).2.1 ≠ (TX7 b).2.1 := by decide +kernel
theorem tyX7_ok : ∀ k, k < 5 → parseFieldDescriptor (TX7 k).2.2.1 = some (tyX7 k) := by decide +kernel
abbrev cX7_init : ByteArray := prog_9_method_1_code
def yX7_init : MethodName := ⟨RX7, "<init>", "()V"⟩
abbrev cX7_add : ByteArray := prog_9_method_2_code
def yX7_add : MethodName := ⟨RX7, "add", "(I)Z"⟩
abbrev cX7_split : ByteArray := prog_9_method_3_code
def yX7_split : MethodName := ⟨RX7, "split", "()V"⟩
abbrev cX7_goesOn : ByteArray := prog_9_method_4_code
def yX7_goesOn : MethodName := ⟨RX7, "goesOn", "(I)Z"⟩
abbrev cX7_putKind : ByteArray := prog_9_method_5_code
def yX7_putKind : MethodName := ⟨RX7, "putKind", "(II)V"⟩
abbrev cX7_kindOfWord : ByteArray := prog_9_method_6_code
def yX7_kindOfWord : MethodName := ⟨RX7, "kindOfWord", "(II)I"⟩
abbrev cX7_isWord : ByteArray := prog_9_method_7_code
def yX7_isWord : MethodName := ⟨RX7, "isWord", "(Ljava/lang/String;II)Z"⟩
abbrev cX7_kindOfNumber : ByteArray := prog_9_method_8_code
def yX7_kindOfNumber : MethodName := ⟨RX7, "kindOfNumber", "(II)I"⟩
abbrev cX7_valueOf : ByteArray := prog_9_method_9_code
def yX7_valueOf : MethodName := ⟨RX7, "valueOf", "(II)I"⟩
abbrev cX7_isSmallLetter : ByteArray := prog_9_method_10_code
def yX7_isSmallLetter : MethodName := ⟨RX7, "isSmallLetter", "(I)Z"⟩
abbrev cX7_isFigure : ByteArray := prog_9_method_11_code
def yX7_isFigure : MethodName := ⟨RX7, "isFigure", "(I)Z"⟩
def RX8 : String := "CaskGauge"
def TX8 : u_T := fun k => match k with
  | 0 => ("CaskGauge", "text", "LCaskGauge$Text;", true)
  | 1 => ("CaskGauge", "reader", "LCaskGauge$Reader;", true)
  | 2 => ("CaskGauge", "cellar", "LCaskGauge$Cellar;", true)
  | 3 => ("CaskGauge", "past", "LCaskGauge$Past;", true)
  | 4 => ("CaskGauge", "images", "[LCaskGauge$Cellar;", true)
  | 5 => ("CaskGauge", "kept", "[Z", true)
  | 6 => ("CaskGauge", "seen", "LCaskGauge$Sightings;", true)
  | 7 => ("CaskGauge", "lying", "[LCaskGauge$Levels;", true)
  | 8 => ("CaskGauge", "standing", "[LCaskGauge$Levels;", true)
  | 9 => ("CaskGauge", "sharing", "LCaskGauge$Sharing;", true)
  | _ => ("CaskGauge", "askedDips", "[I", true)
def tyX8 : Nat → FieldType := fun k => match k with
  | 0 => .object "CaskGauge$Text"
  | 1 => .object "CaskGauge$Reader"
  | 2 => .object "CaskGauge$Cellar"
  | 3 => .object "CaskGauge$Past"
  | 4 => .array (.object "CaskGauge$Cellar")
  | 5 => .array .boolean
  | 6 => .object "CaskGauge$Sightings"
  | 7 => .array (.object "CaskGauge$Levels")
  | 8 => .array (.object "CaskGauge$Levels")
  | 9 => .object "CaskGauge$Sharing"
  | _ => .array .int
abbrev wsX80 : List Cond := u_ws RX8 TX8 11
theorem nmX8 : ∀ a, a < 11 → ∀ b, b < 11 → a ≠ b → (TX8 a).2.1 ≠ (TX8 b).2.1 := by decide +kernel
theorem tyX8_ok : ∀ k, k < 11 → parseFieldDescriptor (TX8 k).2.2.1 = some (tyX8 k) := by decide +kernel
abbrev cX8_init : ByteArray := prog_1_method_1_code
def yX8_init : MethodName := ⟨RX8, "<init>", "()V"⟩
abbrev cX8_type : ByteArray := prog_1_method_2_code
def yX8_type : MethodName := ⟨RX8, "type", "(I)I"⟩
abbrev cX8_clear : ByteArray := prog_1_method_3_code
def yX8_clear : MethodName := ⟨RX8, "clear", "()I"⟩
abbrev cX8_tells : ByteArray := prog_1_method_4_code
def yX8_tells : MethodName := ⟨RX8, "tells", "()I"⟩
abbrev cX8_fills : ByteArray := prog_1_method_5_code
def yX8_fills : MethodName := ⟨RX8, "fills", "(III)I"⟩
abbrev cX8_draws : ByteArray := prog_1_method_6_code
def yX8_draws : MethodName := ⟨RX8, "draws", "(II)I"⟩
abbrev cX8_pours : ByteArray := prog_1_method_7_code
def yX8_pours : MethodName := ⟨RX8, "pours", "(III)I"⟩
abbrev cX8_turnsOver : ByteArray := prog_1_method_8_code
def yX8_turnsOver : MethodName := ⟨RX8, "turnsOver", "(I)I"⟩
abbrev cX8_undo : ByteArray := prog_1_method_9_code
def yX8_undo : MethodName := ⟨RX8, "undo", "()I"⟩
abbrev cX8_cask : ByteArray := prog_1_method_10_code
def yX8_cask : MethodName := ⟨RX8, "cask", "(II)I"⟩
abbrev cX8_slice : ByteArray := prog_1_method_11_code
def yX8_slice : MethodName := ⟨RX8, "slice", "(III)I"⟩
abbrev cX8_under : ByteArray := prog_1_method_12_code
def yX8_under : MethodName := ⟨RX8, "under", "(II)I"⟩
abbrev cX8_dip : ByteArray := prog_1_method_13_code
def yX8_dip : MethodName := ⟨RX8, "dip", "(II)I"⟩
abbrev cX8_stick : ByteArray := prog_1_method_14_code
def yX8_stick : MethodName := ⟨RX8, "stick", "(III)I"⟩
abbrev cX8_known : ByteArray := prog_1_method_15_code
def yX8_known : MethodName := ⟨RX8, "known", "(III)I"⟩
abbrev cX8_shares : ByteArray := prog_1_method_16_code
def yX8_shares : MethodName := ⟨RX8, "shares", "(III)I"⟩
abbrev cX8_all : ByteArray := prog_1_method_17_code
def yX8_all : MethodName := ⟨RX8, "all", "(I)I"⟩
abbrev cX8_sees : ByteArray := prog_1_method_18_code
def yX8_sees : MethodName := ⟨RX8, "sees", "(II)I"⟩
abbrev cX8_forget : ByteArray := prog_1_method_19_code
def yX8_forget : MethodName := ⟨RX8, "forget", "()I"⟩
abbrev cX8_which : ByteArray := prog_1_method_20_code
def yX8_which : MethodName := ⟨RX8, "which", "()I"⟩
abbrev cX8_ask : ByteArray := prog_1_method_21_code
def yX8_ask : MethodName := ⟨RX8, "ask", "()I"⟩
abbrev cX8_keep : ByteArray := prog_1_method_22_code
def yX8_keep : MethodName := ⟨RX8, "keep", "(I)I"⟩
abbrev cX8_back : ByteArray := prog_1_method_23_code
def yX8_back : MethodName := ⟨RX8, "back", "(I)I"⟩
abbrev cX8_count : ByteArray := prog_1_method_24_code
def yX8_count : MethodName := ⟨RX8, "count", "(I)I"⟩
abbrev cX8_levelsOf : ByteArray := prog_1_method_25_code
def yX8_levelsOf : MethodName := ⟨RX8, "levelsOf", "(I)LCaskGauge$Levels;"⟩
abbrev cX8_lyingLevelsOf : ByteArray := prog_1_method_26_code
def yX8_lyingLevelsOf : MethodName := ⟨RX8, "lyingLevelsOf", "(I)LCaskGauge$Levels;"⟩
abbrev cX8_roomIn : ByteArray := prog_1_method_27_code
def yX8_roomIn : MethodName := ⟨RX8, "roomIn", "(I)I"⟩
abbrev cX8_inThousandths : ByteArray := prog_1_method_28_code
def yX8_inThousandths : MethodName := ⟨RX8, "inThousandths", "(F)I"⟩
abbrev cX8_startAsking : ByteArray := prog_1_method_29_code
def yX8_startAsking : MethodName := ⟨RX8, "startAsking", "()V"⟩
abbrev cX8_raiseAskedDips : ByteArray := prog_1_method_30_code
def yX8_raiseAskedDips : MethodName := ⟨RX8, "raiseAskedDips", "(I)Z"⟩
abbrev cX8_mostAlike : ByteArray := prog_1_method_31_code
def yX8_mostAlike : MethodName := ⟨RX8, "mostAlike", "(I)I"⟩
def RX9 : String := "CaskGaugeModel"
def TX9 : u_T := fun k => match k with
  | 0 => ("CaskGaugeModel", "thrown", "I", false)
  | 1 => ("CaskGaugeModel", "s", "[I", true)
  | 2 => ("CaskGaugeModel", "draft", "[I", true)
  | 3 => ("CaskGaugeModel", "past", "[I", true)
  | 4 => ("CaskGaugeModel", "undos", "I", false)
  | 5 => ("CaskGaugeModel", "kept", "[I", true)
  | 6 => ("CaskGaugeModel", "isKept", "[Z", true)
  | 7 => ("CaskGaugeModel", "facts", "[I", true)
  | 8 => ("CaskGaugeModel", "manyFacts", "I", false)
  | 9 => ("CaskGaugeModel", "text", "[B", true)
  | 10 => ("CaskGaugeModel", "typed", "I", false)
  | 11 => ("CaskGaugeModel", "from", "I", false)
  | 12 => ("CaskGaugeModel", "to", "I", false)
  | 13 => ("CaskGaugeModel", "token", "I", false)
  | 14 => ("CaskGaugeModel", "number", "I", false)
  | 15 => ("CaskGaugeModel", "fault", "I", false)
  | 16 => ("CaskGaugeModel", "under", "[I", true)
  | 17 => ("CaskGaugeModel", "top", "I", false)
  | 18 => ("CaskGaugeModel", "first", "I", false)
  | 19 => ("CaskGaugeModel", "last", "I", false)
  | _ => ("CaskGaugeModel", "dips", "[I", true)
def tyX9 : Nat → FieldType := fun k => match k with
  | 0 => .int
  | 1 => .array .int
  | 2 => .array .int
  | 3 => .array .int
  | 4 => .int
  | 5 => .array .int
  | 6 => .array .boolean
  | 7 => .array .int
  | 8 => .int
  | 9 => .array .byte
  | 10 => .int
  | 11 => .int
  | 12 => .int
  | 13 => .int
  | 14 => .int
  | 15 => .int
  | 16 => .array .int
  | 17 => .int
  | 18 => .int
  | 19 => .int
  | _ => .array .int
abbrev wsX90 : List Cond := u_ws RX9 TX9 21
theorem nmX9 : ∀ a, a < 21 → ∀ b, b < 21 → a ≠ b → (TX9 a).2.1 ≠ (TX9 b).2.1 := by decide +kernel
theorem tyX9_ok : ∀ k, k < 21 → parseFieldDescriptor (TX9 k).2.2.1 = some (tyX9 k) := by decide +kernel
abbrev cX9_init : ByteArray := prog_11_method_1_code
def yX9_init : MethodName := ⟨RX9, "<init>", "()V"⟩
abbrev cX9_in : ByteArray := prog_11_method_3_code
def yX9_in : MethodName := ⟨RX9, "in", "(III)Z"⟩
abbrev cX9_type : ByteArray := prog_11_method_4_code
def yX9_type : MethodName := ⟨RX9, "type", "(I)I"⟩
abbrev cX9_clear : ByteArray := prog_11_method_5_code
def yX9_clear : MethodName := ⟨RX9, "clear", "()I"⟩
abbrev cX9_at : ByteArray := prog_11_method_6_code
def yX9_at : MethodName := ⟨RX9, "at", "(I)I"⟩
abbrev cX9_isCaskWord : ByteArray := prog_11_method_7_code
def yX9_isCaskWord : MethodName := ⟨RX9, "isCaskWord", "()Z"⟩
abbrev cX9_isStandsWord : ByteArray := prog_11_method_8_code
def yX9_isStandsWord : MethodName := ⟨RX9, "isStandsWord", "()Z"⟩
abbrev cX9_takesFigures : ByteArray := prog_11_method_9_code
def yX9_takesFigures : MethodName := ⟨RX9, "takesFigures", "()V"⟩
abbrev cX9_steps : ByteArray := prog_11_method_10_code
def yX9_steps : MethodName := ⟨RX9, "steps", "()V"⟩
abbrev cX9_takes : ByteArray := prog_11_method_11_code
def yX9_takes : MethodName := ⟨RX9, "takes", "(Z)V"⟩
abbrev cX9_numberIn : ByteArray := prog_11_method_12_code
def yX9_numberIn : MethodName := ⟨RX9, "numberIn", "(II)I"⟩
abbrev cX9_readsCask : ByteArray := prog_11_method_13_code
def yX9_readsCask : MethodName := ⟨RX9, "readsCask", "()V"⟩
abbrev cX9_readsStands : ByteArray := prog_11_method_14_code
def yX9_readsStands : MethodName := ⟨RX9, "readsStands", "()V"⟩
abbrev cX9_reads : ByteArray := prog_11_method_15_code
def yX9_reads : MethodName := ⟨RX9, "reads", "()I"⟩
abbrev cX9_tells : ByteArray := prog_11_method_16_code
def yX9_tells : MethodName := ⟨RX9, "tells", "()I"⟩
abbrev cX9_isCask : ByteArray := prog_11_method_17_code
def yX9_isCask : MethodName := ⟨RX9, "isCask", "(I)Z"⟩
abbrev cX9_of : ByteArray := prog_11_method_18_code
def yX9_of : MethodName := ⟨RX9, "of", "(II)I"⟩
abbrev cX9_radius : ByteArray := prog_11_method_19_code
def yX9_radius : MethodName := ⟨RX9, "radius", "(II)I"⟩
abbrev cX9_cellsOf : ByteArray := prog_11_method_20_code
def yX9_cellsOf : MethodName := ⟨RX9, "cellsOf", "(III)I"⟩
abbrev cX9_lays : ByteArray := prog_11_method_21_code
def yX9_lays : MethodName := ⟨RX9, "lays", "(IZ)V"⟩
abbrev cX9_laysNow : ByteArray := prog_11_method_22_code
def yX9_laysNow : MethodName := ⟨RX9, "laysNow", "(I)V"⟩
abbrev cX9_dipOf : ByteArray := prog_11_method_23_code
def yX9_dipOf : MethodName := ⟨RX9, "dipOf", "(I)I"⟩
abbrev cX9_hold : ByteArray := prog_11_method_24_code
def yX9_hold : MethodName := ⟨RX9, "hold", "(I)I"⟩
abbrev cX9_notes : ByteArray := prog_11_method_25_code
def yX9_notes : MethodName := ⟨RX9, "notes", "()V"⟩
abbrev cX9_fills : ByteArray := prog_11_method_26_code
def yX9_fills : MethodName := ⟨RX9, "fills", "(III)I"⟩
abbrev cX9_goes : ByteArray := prog_11_method_27_code
def yX9_goes : MethodName := ⟨RX9, "goes", "(II)I"⟩
abbrev cX9_draws : ByteArray := prog_11_method_28_code
def yX9_draws : MethodName := ⟨RX9, "draws", "(II)I"⟩
abbrev cX9_pours : ByteArray := prog_11_method_29_code
def yX9_pours : MethodName := ⟨RX9, "pours", "(III)I"⟩
abbrev cX9_turnsOver : ByteArray := prog_11_method_30_code
def yX9_turnsOver : MethodName := ⟨RX9, "turnsOver", "(I)I"⟩
abbrev cX9_undo : ByteArray := prog_11_method_31_code
def yX9_undo : MethodName := ⟨RX9, "undo", "()I"⟩
abbrev cX9_strength : ByteArray := prog_11_method_32_code
def yX9_strength : MethodName := ⟨RX9, "strength", "(I)F"⟩
abbrev cX9_cask : ByteArray := prog_11_method_33_code
def yX9_cask : MethodName := ⟨RX9, "cask", "(II)I"⟩
abbrev cX9_slice : ByteArray := prog_11_method_34_code
def yX9_slice : MethodName := ⟨RX9, "slice", "(III)I"⟩
abbrev cX9_isHeight : ByteArray := prog_11_method_35_code
def yX9_isHeight : MethodName := ⟨RX9, "isHeight", "(II)Z"⟩
abbrev cX9_under : ByteArray := prog_11_method_36_code
def yX9_under : MethodName := ⟨RX9, "under", "(II)I"⟩
abbrev cX9_dip : ByteArray := prog_11_method_37_code
def yX9_dip : MethodName := ⟨RX9, "dip", "(II)I"⟩
abbrev cX9_stick : ByteArray := prog_11_method_38_code
def yX9_stick : MethodName := ⟨RX9, "stick", "(III)I"⟩
abbrev cX9_known : ByteArray := prog_11_method_39_code
def yX9_known : MethodName := ⟨RX9, "known", "(III)I"⟩
abbrev cX9_mostBy : ByteArray := prog_11_method_40_code
def yX9_mostBy : MethodName := ⟨RX9, "mostBy", "(III)I"⟩
abbrev cX9_shares : ByteArray := prog_11_method_41_code
def yX9_shares : MethodName := ⟨RX9, "shares", "(III)I"⟩
abbrev cX9_strongest : ByteArray := prog_11_method_42_code
def yX9_strongest : MethodName := ⟨RX9, "strongest", "()I"⟩
abbrev cX9_mean : ByteArray := prog_11_method_43_code
def yX9_mean : MethodName := ⟨RX9, "mean", "()I"⟩
abbrev cX9_all : ByteArray := prog_11_method_44_code
def yX9_all : MethodName := ⟨RX9, "all", "(I)I"⟩
abbrev cX9_sees : ByteArray := prog_11_method_45_code
def yX9_sees : MethodName := ⟨RX9, "sees", "(II)I"⟩
abbrev cX9_forget : ByteArray := prog_11_method_46_code
def yX9_forget : MethodName := ⟨RX9, "forget", "()I"⟩
abbrev cX9_suspects : ByteArray := prog_11_method_47_code
def yX9_suspects : MethodName := ⟨RX9, "suspects", "()I"⟩
abbrev cX9_which : ByteArray := prog_11_method_48_code
def yX9_which : MethodName := ⟨RX9, "which", "()I"⟩
abbrev cX9_laysDips : ByteArray := prog_11_method_49_code
def yX9_laysDips : MethodName := ⟨RX9, "laysDips", "()V"⟩
abbrev cX9_alike : ByteArray := prog_11_method_50_code
def yX9_alike : MethodName := ⟨RX9, "alike", "(II)I"⟩
abbrev cX9_ask : ByteArray := prog_11_method_51_code
def yX9_ask : MethodName := ⟨RX9, "ask", "()I"⟩
abbrev cX9_keep : ByteArray := prog_11_method_52_code
def yX9_keep : MethodName := ⟨RX9, "keep", "(I)I"⟩
abbrev cX9_back : ByteArray := prog_11_method_53_code
def yX9_back : MethodName := ⟨RX9, "back", "(I)I"⟩
abbrev cX9_sum : ByteArray := prog_11_method_54_code
def yX9_sum : MethodName := ⟨RX9, "sum", "(I)I"⟩
abbrev cX9_count : ByteArray := prog_11_method_55_code
def yX9_count : MethodName := ⟨RX9, "count", "(I)I"⟩
def RJ6 : String := "java/lang/Integer"
abbrev cJ6_bitCount_0f7a4 : ByteArray := prog_12_method_49_code
def yJ6_bitCount_0f7a4 : MethodName := ⟨RJ6, "bitCount", "(I)I"⟩
def RJ9 : String := "java/lang/Math"
abbrev cJ9_max_7cf53 : ByteArray := prog_13_method_65_code
def yJ9_max_7cf53 : MethodName := ⟨RJ9, "max", "(II)I"⟩
abbrev cJ9_min_7cf53 : ByteArray := prog_13_method_69_code
def yJ9_min_7cf53 : MethodName := ⟨RJ9, "min", "(II)I"⟩
def RJ0 : String := "java/lang/String"
abbrev cJ0_length_8abf5 : ByteArray := prog_14_method_54_code
def yJ0_length_8abf5 : MethodName := ⟨RJ0, "length", "()I"⟩
abbrev cJ0_charAt_5068e : ByteArray := prog_14_method_56_code
def yJ0_charAt_5068e : MethodName := ⟨RJ0, "charAt", "(I)C"⟩
abbrev cJ0_coder_7d493 : ByteArray := prog_14_method_152_code
def yJ0_coder_7d493 : MethodName := ⟨RJ0, "coder", "()B"⟩
abbrev cJ0_isLatin1_aae02 : ByteArray := prog_14_method_154_code
def yJ0_isLatin1_aae02 : MethodName := ⟨RJ0, "isLatin1", "()Z"⟩
abbrev cJ0_checkIndex_df160 : ByteArray := prog_14_method_155_code
def yJ0_checkIndex_df160 : MethodName := ⟨RJ0, "checkIndex", "(II)V"⟩
def RJ1 : String := "java/lang/StringLatin1"
abbrev cJ1_charAt_3b067 : ByteArray := prog_15_method_2_code
def yJ1_charAt_3b067 : MethodName := ⟨RJ1, "charAt", "([BI)C"⟩
def RJ2 : String := "java/lang/StringUTF16"
abbrev cJ2_getChar_3b067 : ByteArray := prog_16_method_5_code
def yJ2_getChar_3b067 : MethodName := ⟨RJ2, "getChar", "([BI)C"⟩
abbrev cJ2_length_9d52b : ByteArray := prog_16_method_6_code
def yJ2_length_9d52b : MethodName := ⟨RJ2, "length", "([B)I"⟩
abbrev cJ2_charAt_3b067 : ByteArray := prog_16_method_83_code
def yJ2_charAt_3b067 : MethodName := ⟨RJ2, "charAt", "([BI)C"⟩
abbrev cJ2_checkIndex_2214a : ByteArray := prog_16_method_91_code
def yJ2_checkIndex_2214a : MethodName := ⟨RJ2, "checkIndex", "(I[B)V"⟩
def RJ3 : String := "jdk/internal/util/Preconditions"
abbrev cJ3_checkIndex_8e157 : ByteArray := prog_17_method_11_code
def yJ3_checkIndex_8e157 : MethodName := ⟨RJ3, "checkIndex", "(IILjava/util/function/BiFunction;)I"⟩
def RL : String := "CaskGaugeLaw"
abbrev cL_law : ByteArray := code
def yL_law : MethodName := ⟨RL, "law", "([I)Z"⟩
abbrev vwCl : List vw_C := [(RX0, TX0, 6), (RX1, TX1, 2), (RX2, TX2, 6), (RX3, TX3, 3), (RX4, TX4, 4), (RX5, TX5, 5), (RX6, TX6, 3), (RX7, TX7, 5), (RX8, TX8, 11), (RX9, TX9, 21)]
end
section

def lw_good : List Cond := lw_tbl.filter goodWord
theorem lw_good_in {w : Cond} (h : w ∈ lw_tbl) (hg : goodWord w = true) : w ∈ lw_good := List.mem_filter.mpr ⟨h, hg⟩
theorem lw_good_sub {w : Cond} (h : w ∈ lw_good) : w ∈ lw_tbl := (List.mem_filter.mp h).1
theorem lw_good_good {w : Cond} (h : w ∈ lw_good) : goodWord w = true := (List.mem_filter.mp h).2
/-- a cell's shape: (0, its class' number, its references) or (an array's type + 1, its length, its references) -/
abbrev sm_S : Type := Nat × Nat × List (Option Nat)
/-- what ints the cells hold: cell, slot -/
abbrev sm_I : Type := Nat → Nat → Int32
/-- where the cells lie: base, addresses, classes and slots, array classes, the strings' arrays -/
abbrev sm_G : Type := Nat × (Nat → Nat) × va_G × (Nat → ClassId) × (Nat → Nat)
abbrev sm_Z : Type := Nat × (Nat → Int32)
/-- a method: its name, code, locals, answer -/
abbrev sm_Mu : Type := MethodName × ByteArray × Nat × Option FieldType
abbrev sm_Qt : Type := Option Value → Nat → (Nat → sm_S) → sm_I → Prop
def sm_ft (c : Nat) : List Bool := match c with
  | 0 => [true, true, true, true, true, true]
  | 1 => [false, true]
  | 2 => [true, false, true, true, true, true]
  | 3 => [false, true, true]
  | 4 => [false, true, false, true]
  | 5 => [true, true, true, true, true]
  | 6 => [false, false, true]
  | 7 => [false, true, false, false, false]
  | 8 => [false, false, false, false, false, false, false, false, false, false, false]
  | 9 => [true, false, false, false, true, false, false, false, true, false, true, true, true, true, true, true, false, true, true, true, false]
  | _ => []
def sm_V (ad : Nat → Nat) : Value → Value
  | .ref a => .ref (ad a)
  | v => v
theorem sm_V_cat (ad : Nat → Nat) (v : Value) : (sm_V ad v).category = v.category := by cases v <;> rfl
def sm_F (ad : Nat → Nat) (c : Nat) (rs : List (Option Nat)) (f : Nat → Int32) : List Value := (List.range (sm_ft c).length).map fun k => if (sm_ft c).getD k false = true then .int (f k) else va_rf ((rs.getD k none).map ad)
def sm_E (ad : Nat → Nat) (g : Nat → ClassId) (q : sm_S) (f : Nat → Int32) : va_E := match q.1 with
  | 0 => .inr (q.2.1, sm_F ad q.2.1 q.2.2 f)
  | t + 1 => if t < 3 then .inl (g t, q.2.1, .inl f) else .inl (g t, q.2.1, .inr (.inr (.inr (.inr (fun j => (q.2.2.getD j none).map ad)))))
def sm_H (Γ : sm_G) (n : Nat) (sh : Nat → sm_S) (I : sm_I) (H : Heap) : Prop := H.size = Γ.1 + n ∧ n ≤ 1000000 ∧ ∀ a, a < n → va_at Γ.2.2.1 vwCl (Γ.2.1 a, sm_E Γ.2.1 Γ.2.2.2.1 (sh a) (I a)) H
def sm_ty (t : Nat) : FieldType := match t with
  | 0 => .int
  | 1 => .boolean
  | 2 => .byte
  | 3 => .object RX0
  | 4 => .object RX1
  | _ => .object RX2
abbrev sm_tys (g : Nat → ClassId) : List (ClassId × FieldType) := [(g 0, sm_ty 0), (g 1, sm_ty 1), (g 2, sm_ty 2), (g 3, sm_ty 3), (g 4, sm_ty 4), (g 5, sm_ty 5)]
def sm_N (U : State) : Prop := va_AO RX0 U ∧ va_AO RX1 U ∧ va_AO RX2 U ∧ va_Nw (.methodLinkNest RX1 17 yX0_init RX8) U ∧ va_Nw (.methodLinkNest RX8 68 yX5_init RX8) U
def sm_O (ζ : sm_Z) (Γ : sm_G) (U : State) (H : Heap) : Prop :=
  vk_R RX7 52 "cask" (Γ.2.1 1000001) U ∧ vk_R RX7 58 "stands" (Γ.2.1 1000002) U ∧
  vk_S 2 [4, 6] [[99, 97, 115, 107], [115, 116, 97, 110, 100, 115]] (fun i => Γ.2.1 (1000001 + i)) Γ.2.2.2.2 (fun q => Γ.1 ≤ q) U H ∧
  va_Z RJ0 "COMPACT_STRINGS" "Z" (.int 1) (fun q => Γ.1 ≤ q) U H ∧ va_Zq RJ3 "SIOOBE_FORMATTER" "Ljava/util/function/BiFunction;" (fun q => Γ.1 ≤ q) U H ∧
  (va_X (Γ.2.1 1000000) ζ.1 ζ.2 U H ∧ Γ.2.1 1000000 < Γ.1)
def sm_K (ζ : sm_Z) (Γ : sm_G) (U : State) : Prop := (∀ k, k < 1000000 → Γ.2.1 k = Γ.1 + k) ∧ va_K Γ.2.2.1 vwCl (sm_tys Γ.2.2.2.1) U ∧ sm_N U ∧ sm_O ζ Γ U U.heap ∧ Γ.1 ≤ U.heap.size
theorem sm_N.warm {s U : State} (hW : s.WarmedH U.vm) (h : sm_N s) : sm_N U := ⟨h.1.moved hW.alike, h.2.1.moved hW.alike, h.2.2.1.moved hW.alike, h.2.2.2.1.warmM hW, h.2.2.2.2.warmM hW⟩
theorem sm_N.same {s U : State} (hv : s.vm = U.vm) (h : sm_N s) : sm_N U := ⟨h.1.moved (by rw [hv]; exact Vm.Alike.refl _), h.2.1.moved (by rw [hv]; exact Vm.Alike.refl _), h.2.2.1.moved (by rw [hv]; exact Vm.Alike.refl _), h.2.2.2.1.same rfl hv, h.2.2.2.2.same rfl hv⟩
theorem sm_O.warm {ζ : sm_Z} {Γ : sm_G} {s U : State} {H H1 : Heap} (hW : s.WarmedH U.vm) (hz : Γ.1 ≤ H.size) (hk : ∀ a : Nat, a < H.size → ¬ Γ.1 ≤ a → H1[a]? = H[a]?) (h : sm_O ζ Γ s H) : sm_O ζ Γ U H1 := by
  obtain ⟨h1, h2, h3, h4, h5, h6, h7⟩ := h
  exact ⟨h1.warm hW, h2.warm hW, (h3.moved hW.alike).kept hk, (h4.moved hW.alike).kept hk, (h5.moved hW.alike).kept hk, (va_X.moved hW.alike h6).kept (hk _ (by omega) (by omega)), h7⟩
theorem sm_O.same {ζ : sm_Z} {Γ : sm_G} {s U : State} {H : Heap} (hv : s.vm = U.vm) (h : sm_O ζ Γ s H) : sm_O ζ Γ U H := by
  obtain ⟨h1, h2, h3, h4, h5, h6, h7⟩ := h
  have ha : s.vm.Alike U.vm := by rw [hv]; exact Vm.Alike.refl _
  exact ⟨h1.same hv.symm, h2.same hv.symm, h3.moved ha, h4.moved ha, h5.moved ha, va_X.moved ha h6, h7⟩
/-- what a callee is told of the machine, out of what its caller knows -/
theorem sm_K.pass {ζ : sm_Z} {Γ : sm_G} {s U : State} {locs : List Loc} (hW : s.WarmedH U.vm) (hS : va_S (fun q => Γ.1 ≤ q) s.heap U.heap locs) (h : sm_K ζ Γ s) : sm_K ζ Γ U := by
  obtain ⟨h1, h2, h3, h4, h5⟩ := h
  exact ⟨h1, h2.moved hW.alike, h3.warm hW, h4.warm hW h5 (fun a z1 z2 => hS.2.1 a z1 z2), Nat.le_trans h5 hS.1⟩
theorem sm_K.same {ζ : sm_Z} {Γ : sm_G} {s U : State} (hv : s.vm = U.vm) (hh : s.heap = U.heap) (h : sm_K ζ Γ s) : sm_K ζ Γ U := by
  obtain ⟨h1, h2, h3, h4, h5⟩ := h
  exact ⟨h1, h2.moved (by rw [hv]; exact Vm.Alike.refl _), h3.same hv, by rw [← hh]; exact h4.same hv, by rw [← hh]; exact h5⟩
def sm_Pc (ζ : sm_Z) (Γ : sm_G) (as : List Value) (n : Nat) (sh : Nat → sm_S) (I : sm_I) : Array Value → State → Prop := va_Pc (as.map (sm_V Γ.2.1)) (fun U => sm_H Γ n sh I U.heap ∧ sm_K ζ Γ U)
def sm_Qc (Γ : sm_G) (Q : sm_Qt) : Array Value → State → Outcome → State → Prop := fun _ st oc t => (∃ r n sh I, oc = .returned (r.map (sm_V Γ.2.1)) ∧ Q r n sh I ∧ sm_H Γ n sh I t.heap) ∧ va_F (fun q => Γ.1 ≤ q) st t
theorem sm_Pc.blind {ζ : sm_Z} {Γ : sm_G} {as : List Value} {n : Nat} {sh : Nat → sm_S} {I : sm_I} : FrameBlind (sm_Pc ζ Γ as n sh I) := by
  intro a U g mk h
  obtain ⟨h1, h2, h3⟩ := h
  exact ⟨h1, h2, h3.same (U := U.calling g mk a) rfl rfl⟩
abbrev sm_rm (d mc ms : Nat) : Room := { frames := d, cells := mc, slots := ms, locals := 40 * d }
abbrev sm_ws (μ : sm_Mu) : List Cond := Cond.code μ.1 μ.2.1 μ.2.2.1 μ.2.2.2 :: lw_good
/-- A METHOD'S CONTRACT: from the shapes sh and the ints I it comes to an answer and a state with Q; d: how many frames it takes -/
def Em (d mc ms : Nat) (μ : sm_Mu) (as : List Value) (n : Nat) (sh : Nat → sm_S) (I : sm_I) (Q : sm_Qt) : Prop := ∀ (ζ : sm_Z) (l : Launch) (Γ : sm_G), Met l μ.1 (sm_ws μ) (sm_rm d mc ms) (sm_Pc ζ Γ as n sh I) (sm_Qc Γ Q) mc ms (fun q => Γ.1 ≤ q)
def sm_L (ad : Nat → Nat) (ls : Array Slot) (nL : Nat) (lv : List (Option Value)) : Prop := ls.size = nL ∧ lv_wf ls ∧ ∀ (i : Nat) (v : Value), lv[i]? = some (some v) → v.category = 1 ∧ ls[i]? = some (.val (sm_V ad v))
def sm_R (μ : sm_Mu) (r : Option Value) (pc : Nat) : Prop := match r with
  | none => μ.2.2.2 = none ∧ decode μ.2.1 pc = .ok (.return_, 1)
  | some (.int v) => (∃ ty, μ.2.2.2 = some ty ∧ narrow ty (.int v) = .int v) ∧ decode μ.2.1 pc = .ok (.ireturn, 1)
  | some (.float _) => μ.2.2.2 = some .float ∧ decode μ.2.1 pc = .ok (.freturn, 1)
  | some (.ref _) => (∃ t, μ.2.2.2 = some (.object t)) ∧ decode μ.2.1 pc = .ok (.areturn, 1)
  | _ => False
/-- what holds all through a method's walk -/
def sm_C (ζ : sm_Z) (Γ : sm_G) (R : Room) (μ : sm_Mu) (p : Program) (l : Launch) (e : Env) (s : State) (m : MethodId) (args : Array Value) (below : List Frame) (meth : Method) (c : Code) (Z : State → Prop) (Q : sm_Qt) : Prop :=
  p.tables.exec = Jvm.exec ∧ c.code = μ.2.1 ∧ c.maxLocals = μ.2.2.1 ∧ s.vm.findClass μ.1.cls = some m.cls ∧ (∀ w ∈ lw_good, w.before args s = true) ∧ meth.name = μ.1.name ∧ sm_K ζ Γ s ∧
  ∀ (r : Option Value) (n : Nat) (sh : Nat → sm_S) (I : sm_I) (H : Heap) (locs : List Loc) (cl sl pc : Nat) (ls : Array Slot), cl ≤ R.cells → sl ≤ R.slots → Q r n sh I → sm_H Γ n sh I H → va_S (fun q => Γ.1 ≤ q) s.heap H locs → sm_R μ r pc → W p l e R s m args below meth c H locs cl sl Z (F0 m pc ls (r.map (sm_V Γ.2.1)).toList)
def sm_D (Γ : sm_G) (s : State) (μ : sm_Mu) (H : Heap) (locs : List Loc) (ls : Array Slot) (lv : List (Option Value)) (n : Nat) (sh : Nat → sm_S) (I : sm_I) : Prop := va_S (fun q => Γ.1 ≤ q) s.heap H locs ∧ sm_H Γ n sh I H ∧ sm_L Γ.2.1 ls μ.2.2.1 lv
/-- THE WALK: at pc, with locals lv and stack st, the shapes sh and the ints I, the method comes to its end with Q -/
def Xm (ζ : sm_Z) (R : Room) (μ : sm_Mu) (pc : Nat) (lv : List (Option Value)) (st : List Value) (cl sl n : Nat) (sh : Nat → sm_S) (I : sm_I) (Q : sm_Qt) : Prop :=
  ∀ (Γ : sm_G) (p : Program) (l : Launch) (e : Env) (s : State) (m : MethodId) (args : Array Value) (below : List Frame) (meth : Method) (c : Code) (Z : State → Prop) (H : Heap) (locs : List Loc) (ls : Array Slot), sm_C ζ Γ R μ p l e s m args below meth c Z Q → sm_D Γ s μ H locs ls lv n sh I → W p l e R s m args below meth c H locs cl sl Z (F0 m pc ls (st.map (sm_V Γ.2.1)))
def sm_A (ad : Nat → Nat) (lv : List (Option Value)) : List (Nat × Value) := (List.range lv.length).filterMap fun j => (lv.getD j none).map fun v => (j, sm_V ad v)
theorem sm_A_mem {ad : Nat → Nat} {lv : List (Option Value)} {j : Nat} {v : Value} (h : lv[j]? = some (some v)) : (j, sm_V ad v) ∈ sm_A ad lv := by
  have hl : j < lv.length := (List.getElem?_eq_some_iff.mp h).1
  refine List.mem_filterMap.mpr ⟨j, List.mem_range.mpr hl, ?_⟩
  rw [List.getD_eq_getElem?_getD, h]
  rfl
theorem sm_A_of {ad : Nat → Nat} {lv : List (Option Value)} {q : Nat × Value} (h : q ∈ sm_A ad lv) : ∃ v, lv[q.1]? = some (some v) ∧ q.2 = sm_V ad v := by
  obtain ⟨j, hj, hq⟩ := List.mem_filterMap.mp h
  have hl := List.mem_range.mp hj
  rw [List.getD_eq_getElem?_getD] at hq
  cases hv : lv[j]? with
  | none => rw [hv] at hq; cases hq
  | some o =>
    cases o with
    | none => rw [hv] at hq; cases hq
    | some v => rw [hv] at hq; cases hq; exact ⟨v, hv, rfl⟩
theorem sm_L.has {ad : Nat → Nat} {ls : Array Slot} {nL : Nat} {lv : List (Option Value)} (h : sm_L ad ls nL lv) : lv_has ls nL (sm_A ad lv) := by
  refine ⟨h.1, h.2.1, fun q hq => ?_⟩
  obtain ⟨v, h1, h2⟩ := sm_A_of hq
  rw [h2]
  exact (h.2.2 q.1 v h1).2
theorem sm_L.set {ad : Nat → Nat} {ls ls' : Array Slot} {nL : Nat} {lv : List (Option Value)} {i : Nat} {v : Value} (hv : v.category = 1) (h0 : sm_L ad ls nL lv) (h : lv_has ls' nL ((i, sm_V ad v) :: (sm_A ad lv).filter (fun q => !(q.1 == i) && !(q.1 + 1 == i && q.2.category == 2)))) : sm_L ad ls' nL (lv.set i (some v)) := by
  refine ⟨h.1, h.2.1, fun j w hj => ?_⟩
  by_cases hji : j = i
  · subst hji
    by_cases hl : j < lv.length
    · rw [List.getElem?_set_self hl] at hj
      cases hj
      exact ⟨hv, h.2.2 _ List.mem_cons_self⟩
    · rw [List.getElem?_eq_none (by rw [List.length_set]; omega)] at hj
      cases hj
  · rw [List.getElem?_set_ne (Ne.symm hji)] at hj
    have hc := (h0.2.2 j w hj).1
    refine ⟨hc, h.2.2 (j, sm_V ad w) (List.mem_cons_of_mem _ (List.mem_filter.mpr ⟨sm_A_mem hj, ?_⟩))⟩
    have h2 : ¬ (sm_V ad w).category = 2 := by rw [sm_V_cat, hc]; decide
    simp [hji, h2]
theorem sm_L.at {ad : Nat → Nat} {ls : Array Slot} {nL : Nat} {lv : List (Option Value)} {i : Nat} {v : Value} (h : sm_L ad ls nL lv) (hv : lv[i]? = some (some v)) : ls[i]? = some (.val (sm_V ad v)) := (h.2.2 i v hv).2
/-- one int of the memory anew -/
def up2 (I : sm_I) (a k : Nat) (v : Int32) : sm_I := fun b j => if b = a ∧ j = k then v else I b j
theorem up2_row {I : sm_I} {a k : Nat} {v : Int32} : up2 I a k v a = upd (I a) k v := by
  funext j
  by_cases h : j = k <;> simp [up2, upd, h]
theorem up2_ne {I : sm_I} {a b k : Nat} {v : Int32} (h : b ≠ a) : up2 I a k v b = I b := by
  funext j
  simp [up2, h]
theorem up2_s {I : sm_I} {a k : Nat} {v : Int32} : up2 I a k v a k = v := by simp [up2]
section SMX
variable {ζ : sm_Z} {R : Room} {μ : sm_Mu} {pc : Nat} {lv : List (Option Value)} {st : List Value} {cl sl n : Nat} {sh : Nat → sm_S} {I : sm_I} {Q : sm_Qt}
theorem x_iadd {x y : Int32} (hd : decode μ.2.1 pc = .ok (.iadd, 1)) (k : Xm ζ R μ (pc + 1) lv (.int (x + y) :: st) cl sl n sh I Q) : Xm ζ R μ pc lv (.int y :: .int x :: st) cl sl n sh I Q := by
  intro Γ p l e s m args below meth c Z H locs ls C D
  exact lv_iadd C.1 C.2.1 hd (k Γ p l e s m args below meth c Z H locs ls C D)

theorem x_isub {x y : Int32} (hd : decode μ.2.1 pc = .ok (.isub, 1)) (k : Xm ζ R μ (pc + 1) lv (.int (x - y) :: st) cl sl n sh I Q) : Xm ζ R μ pc lv (.int y :: .int x :: st) cl sl n sh I Q := by
  intro Γ p l e s m args below meth c Z H locs ls C D
  exact lv_isub C.1 C.2.1 hd (k Γ p l e s m args below meth c Z H locs ls C D)

theorem x_imul {x y : Int32} (hd : decode μ.2.1 pc = .ok (.imul, 1)) (k : Xm ζ R μ (pc + 1) lv (.int (x * y) :: st) cl sl n sh I Q) : Xm ζ R μ pc lv (.int y :: .int x :: st) cl sl n sh I Q := by
  intro Γ p l e s m args below meth c Z H locs ls C D
  exact lv_imul C.1 C.2.1 hd (k Γ p l e s m args below meth c Z H locs ls C D)

theorem x_iand {x y : Int32} (hd : decode μ.2.1 pc = .ok (.iand, 1)) (k : Xm ζ R μ (pc + 1) lv (.int (x &&& y) :: st) cl sl n sh I Q) : Xm ζ R μ pc lv (.int y :: .int x :: st) cl sl n sh I Q := by
  intro Γ p l e s m args below meth c Z H locs ls C D
  exact lv_iand C.1 C.2.1 hd (k Γ p l e s m args below meth c Z H locs ls C D)

theorem x_ior {x y : Int32} (hd : decode μ.2.1 pc = .ok (.ior, 1)) (k : Xm ζ R μ (pc + 1) lv (.int (x ||| y) :: st) cl sl n sh I Q) : Xm ζ R μ pc lv (.int y :: .int x :: st) cl sl n sh I Q := by
  intro Γ p l e s m args below meth c Z H locs ls C D
  exact lv_ior C.1 C.2.1 hd (k Γ p l e s m args below meth c Z H locs ls C D)

theorem x_ishl {x y : Int32} (hd : decode μ.2.1 pc = .ok (.ishl, 1)) (k : Xm ζ R μ (pc + 1) lv (.int (x <<< (y &&& 31)) :: st) cl sl n sh I Q) : Xm ζ R μ pc lv (.int y :: .int x :: st) cl sl n sh I Q := by
  intro Γ p l e s m args below meth c Z H locs ls C D
  exact lv_ishl C.1 C.2.1 hd (k Γ p l e s m args below meth c Z H locs ls C D)

theorem x_ishr {x y : Int32} (hd : decode μ.2.1 pc = .ok (.ishr, 1)) (k : Xm ζ R μ (pc + 1) lv (.int (x >>> (y &&& 31)) :: st) cl sl n sh I Q) : Xm ζ R μ pc lv (.int y :: .int x :: st) cl sl n sh I Q := by
  intro Γ p l e s m args below meth c Z H locs ls C D
  exact lv_ishr C.1 C.2.1 hd (k Γ p l e s m args below meth c Z H locs ls C D)

theorem x_iushr {x y : Int32} (hd : decode μ.2.1 pc = .ok (.iushr, 1)) (k : Xm ζ R μ (pc + 1) lv (.int (x.toUInt32 >>> (y.toUInt32 &&& Int32.toUInt32 31)).toInt32 :: st) cl sl n sh I Q) : Xm ζ R μ pc lv (.int y :: .int x :: st) cl sl n sh I Q := by
  intro Γ p l e s m args below meth c Z H locs ls C D
  exact lv_iushr C.1 C.2.1 hd rfl (k Γ p l e s m args below meth c Z H locs ls C D)

theorem x_idiv {x y : Int32} (hd : decode μ.2.1 pc = .ok (.idiv, 1)) (hne : ¬ y = 0) (k : Xm ζ R μ (pc + 1) lv (.int (x / y) :: st) cl sl n sh I Q) : Xm ζ R μ pc lv (.int y :: .int x :: st) cl sl n sh I Q := by
  intro Γ p l e s m args below meth c Z H locs ls C D
  exact lv_idiv C.1 C.2.1 hd hne (k Γ p l e s m args below meth c Z H locs ls C D)

theorem x_irem {x y : Int32} (hd : decode μ.2.1 pc = .ok (.irem, 1)) (hne : ¬ y = 0) (k : Xm ζ R μ (pc + 1) lv (.int (x - x / y * y) :: st) cl sl n sh I Q) : Xm ζ R μ pc lv (.int y :: .int x :: st) cl sl n sh I Q := by
  intro Γ p l e s m args below meth c Z H locs ls C D
  exact lv_irem C.1 C.2.1 hd hne (k Γ p l e s m args below meth c Z H locs ls C D)

theorem x_i2b {x : Int32} (hd : decode μ.2.1 pc = .ok (.i2b, 1)) (k : Xm ζ R μ (pc + 1) lv (.int x.toInt8.toInt32 :: st) cl sl n sh I Q) : Xm ζ R μ pc lv (.int x :: st) cl sl n sh I Q := by
  intro Γ p l e s m args below meth c Z H locs ls C D
  exact lv_i2b C.1 C.2.1 hd rfl (k Γ p l e s m args below meth c Z H locs ls C D)

theorem x_i2f {x : Int32} (hd : decode μ.2.1 pc = .ok (.i2f, 1)) (k : Xm ζ R μ (pc + 1) lv (.float (FP.i2f x) :: st) cl sl n sh I Q) : Xm ζ R μ pc lv (.int x :: st) cl sl n sh I Q := by
  intro Γ p l e s m args below meth c Z H locs ls C D
  exact lv_i2f C.1 C.2.1 hd (k Γ p l e s m args below meth c Z H locs ls C D)

theorem x_f2i {x : UInt32} (hd : decode μ.2.1 pc = .ok (.f2i, 1)) (k : Xm ζ R μ (pc + 1) lv (.int (FP.f2i x) :: st) cl sl n sh I Q) : Xm ζ R μ pc lv (.float x :: st) cl sl n sh I Q := by
  intro Γ p l e s m args below meth c Z H locs ls C D
  exact lv_f2i C.1 C.2.1 hd (k Γ p l e s m args below meth c Z H locs ls C D)

theorem x_fadd {x y : UInt32} (hd : decode μ.2.1 pc = .ok (.fadd, 1)) (hne : vf_n32 (FP.fadd x y)) (k : Xm ζ R μ (pc + 1) lv (.float (FP.fadd x y) :: st) cl sl n sh I Q) : Xm ζ R μ pc lv (.float y :: .float x :: st) cl sl n sh I Q := by
  intro Γ p l e s m args below meth c Z H locs ls C D
  exact lv_fadd C.1 C.2.1 hd hne (k Γ p l e s m args below meth c Z H locs ls C D)

theorem x_fmul {x y : UInt32} (hd : decode μ.2.1 pc = .ok (.fmul, 1)) (hne : vf_n32 (FP.fmul x y)) (k : Xm ζ R μ (pc + 1) lv (.float (FP.fmul x y) :: st) cl sl n sh I Q) : Xm ζ R μ pc lv (.float y :: .float x :: st) cl sl n sh I Q := by
  intro Γ p l e s m args below meth c Z H locs ls C D
  exact lv_fmul C.1 C.2.1 hd hne (k Γ p l e s m args below meth c Z H locs ls C D)

theorem x_fdiv {x y : UInt32} (hd : decode μ.2.1 pc = .ok (.fdiv, 1)) (hne : vf_n32 (FP.fdiv x y)) (k : Xm ζ R μ (pc + 1) lv (.float (FP.fdiv x y) :: st) cl sl n sh I Q) : Xm ζ R μ pc lv (.float y :: .float x :: st) cl sl n sh I Q := by
  intro Γ p l e s m args below meth c Z H locs ls C D
  exact lv_fdiv C.1 C.2.1 hd hne (k Γ p l e s m args below meth c Z H locs ls C D)

theorem x_fcmp {x y : UInt32} {op : CmpOp} (hd : decode μ.2.1 pc = .ok (.fcmp op, 1)) (k : Xm ζ R μ (pc + 1) lv (.int (Op.cmpValue (FP.fcmp x y) op) :: st) cl sl n sh I Q) : Xm ζ R μ pc lv (.float y :: .float x :: st) cl sl n sh I Q := by
  intro Γ p l e s m args below meth c Z H locs ls C D
  exact lv_fcmp C.1 C.2.1 hd (k Γ p l e s m args below meth c Z H locs ls C D)

theorem x_fconst0  (hd : decode μ.2.1 pc = .ok (.fconst 0, 1)) (k : Xm ζ R μ (pc + 1) lv (.float FP.fconst0 :: st) cl sl n sh I Q) : Xm ζ R μ pc lv st cl sl n sh I Q := by
  intro Γ p l e s m args below meth c Z H locs ls C D
  exact lv_fconst0 C.1 C.2.1 hd (k Γ p l e s m args below meth c Z H locs ls C D)

theorem x_iconst {i : Int} {v : Int32} (hd : decode μ.2.1 pc = .ok (.iconst i, 1)) (hv : Int32.ofInt i = v) (k : Xm ζ R μ (pc + 1) lv (.int v :: st) cl sl n sh I Q) : Xm ζ R μ pc lv st cl sl n sh I Q := by
  intro Γ p l e s m args below meth c Z H locs ls C D
  exact lv_iconst C.1 C.2.1 hd hv (k Γ p l e s m args below meth c Z H locs ls C D)

theorem x_bipush {i : Int} {v : Int32} (hd : decode μ.2.1 pc = .ok (.bipush i, 2)) (hv : (Int8.ofInt i).toInt32 = v) (k : Xm ζ R μ (pc + 2) lv (.int v :: st) cl sl n sh I Q) : Xm ζ R μ pc lv st cl sl n sh I Q := by
  intro Γ p l e s m args below meth c Z H locs ls C D
  exact lv_bipush C.1 C.2.1 hd hv (k Γ p l e s m args below meth c Z H locs ls C D)

theorem x_sipush {i : Int} {v : Int32} (hd : decode μ.2.1 pc = .ok (.sipush i, 3)) (hv : (Int16.ofInt i).toInt32 = v) (k : Xm ζ R μ (pc + 3) lv (.int v :: st) cl sl n sh I Q) : Xm ζ R μ pc lv st cl sl n sh I Q := by
  intro Γ p l e s m args below meth c Z H locs ls C D
  exact lv_sipush C.1 C.2.1 hd hv (k Γ p l e s m args below meth c Z H locs ls C D)

theorem x_dup {v : Value} (hd : decode μ.2.1 pc = .ok (.dup, 1)) (hv : v.category = 1) (k : Xm ζ R μ (pc + 1) lv (v :: v :: st) cl sl n sh I Q) : Xm ζ R μ pc lv (v :: st) cl sl n sh I Q := by
  intro Γ p l e s m args below meth c Z H locs ls C D
  exact lv_dup C.1 C.2.1 hd (by rw [sm_V_cat]; exact hv) (k Γ p l e s m args below meth c Z H locs ls C D)

theorem x_pop {v : Value} (hd : decode μ.2.1 pc = .ok (.pop, 1)) (hv : v.category = 1) (k : Xm ζ R μ (pc + 1) lv st cl sl n sh I Q) : Xm ζ R μ pc lv (v :: st) cl sl n sh I Q := by
  intro Γ p l e s m args below meth c Z H locs ls C D
  exact lv_pop C.1 C.2.1 hd (by rw [sm_V_cat]; exact hv) (k Γ p l e s m args below meth c Z H locs ls C D)

theorem x_dup2 {v w : Value} (hd : decode μ.2.1 pc = .ok (.dup2, 1)) (hv : v.category = 1) (hw : w.category = 1) (k : Xm ζ R μ (pc + 1) lv (v :: w :: v :: w :: st) cl sl n sh I Q) : Xm ζ R μ pc lv (v :: w :: st) cl sl n sh I Q := by
  intro Γ p l e s m args below meth c Z H locs ls C D
  exact lv_dup2_11 C.1 C.2.1 hd (by rw [sm_V_cat]; exact hv) (by rw [sm_V_cat]; exact hw) (k Γ p l e s m args below meth c Z H locs ls C D)

theorem x_iload_n {j : Fin 4} {i : Nat} {x : Int32} (hd : decode μ.2.1 pc = .ok (.iload_n j, 1)) (hi : (j : Nat) = i) (hl : lv[i]? = some (some (.int x))) (k : Xm ζ R μ (pc + 1) lv (.int x :: st) cl sl n sh I Q) : Xm ζ R μ pc lv st cl sl n sh I Q := by
  intro Γ p l e s m args below meth c Z H locs ls C D
  exact lv_iload_n C.1 C.2.1 hd hi (D.2.2.at hl) (k Γ p l e s m args below meth c Z H locs ls C D)

theorem x_iload {i : Nat} {x : Int32} (hd : decode μ.2.1 pc = .ok (.iload i, 2)) (hl : lv[i]? = some (some (.int x))) (k : Xm ζ R μ (pc + 2) lv (.int x :: st) cl sl n sh I Q) : Xm ζ R μ pc lv st cl sl n sh I Q := by
  intro Γ p l e s m args below meth c Z H locs ls C D
  exact lv_iload C.1 C.2.1 hd (D.2.2.at hl) (k Γ p l e s m args below meth c Z H locs ls C D)

theorem x_aload_n {j : Fin 4} {i : Nat} {x : Nat} (hd : decode μ.2.1 pc = .ok (.aload_n j, 1)) (hi : (j : Nat) = i) (hl : lv[i]? = some (some (.ref x))) (k : Xm ζ R μ (pc + 1) lv (.ref x :: st) cl sl n sh I Q) : Xm ζ R μ pc lv st cl sl n sh I Q := by
  intro Γ p l e s m args below meth c Z H locs ls C D
  exact lv_aload_n C.1 C.2.1 hd hi (D.2.2.at hl) (k Γ p l e s m args below meth c Z H locs ls C D)

theorem x_aload {i : Nat} {x : Nat} (hd : decode μ.2.1 pc = .ok (.aload i, 2)) (hl : lv[i]? = some (some (.ref x))) (k : Xm ζ R μ (pc + 2) lv (.ref x :: st) cl sl n sh I Q) : Xm ζ R μ pc lv st cl sl n sh I Q := by
  intro Γ p l e s m args below meth c Z H locs ls C D
  exact lv_aload C.1 C.2.1 hd (D.2.2.at hl) (k Γ p l e s m args below meth c Z H locs ls C D)

theorem x_fload_n {j : Fin 4} {i : Nat} {x : UInt32} (hd : decode μ.2.1 pc = .ok (.fload_n j, 1)) (hi : (j : Nat) = i) (hl : lv[i]? = some (some (.float x))) (k : Xm ζ R μ (pc + 1) lv (.float x :: st) cl sl n sh I Q) : Xm ζ R μ pc lv st cl sl n sh I Q := by
  intro Γ p l e s m args below meth c Z H locs ls C D
  exact lv_fload_n C.1 C.2.1 hd hi (D.2.2.at hl) (k Γ p l e s m args below meth c Z H locs ls C D)

theorem x_istore_n {j : Fin 4} {i : Nat} {x : Int32} (hd : decode μ.2.1 pc = .ok (.istore_n j, 1)) (hi : (j : Nat) = i) (hn : i < μ.2.2.1) (k : Xm ζ R μ (pc + 1) (lv.set i (some (.int x))) st cl sl n sh I Q) : Xm ζ R μ pc lv (.int x :: st) cl sl n sh I Q := by
  intro Γ p l e s m args below meth c Z H locs ls C D
  exact lv_istore_n C.1 C.2.1 hd hi D.2.2.has hn rfl (fun ls' hl' => k Γ p l e s m args below meth c Z H locs ls' C ⟨D.1, D.2.1, D.2.2.set rfl hl'⟩)

theorem x_istore {i : Nat} {x : Int32} (hd : decode μ.2.1 pc = .ok (.istore i, 2)) (hn : i < μ.2.2.1) (k : Xm ζ R μ (pc + 2) (lv.set i (some (.int x))) st cl sl n sh I Q) : Xm ζ R μ pc lv (.int x :: st) cl sl n sh I Q := by
  intro Γ p l e s m args below meth c Z H locs ls C D
  exact lv_istore C.1 C.2.1 hd D.2.2.has hn rfl (fun ls' hl' => k Γ p l e s m args below meth c Z H locs ls' C ⟨D.1, D.2.1, D.2.2.set rfl hl'⟩)

theorem x_astore_n {j : Fin 4} {i : Nat} {x : Nat} (hd : decode μ.2.1 pc = .ok (.astore_n j, 1)) (hi : (j : Nat) = i) (hn : i < μ.2.2.1) (k : Xm ζ R μ (pc + 1) (lv.set i (some (.ref x))) st cl sl n sh I Q) : Xm ζ R μ pc lv (.ref x :: st) cl sl n sh I Q := by
  intro Γ p l e s m args below meth c Z H locs ls C D
  exact lv_astore_n C.1 C.2.1 hd hi D.2.2.has hn rfl (fun ls' hl' => k Γ p l e s m args below meth c Z H locs ls' C ⟨D.1, D.2.1, D.2.2.set rfl hl'⟩)

theorem x_astore {i : Nat} {x : Nat} (hd : decode μ.2.1 pc = .ok (.astore i, 2)) (hn : i < μ.2.2.1) (k : Xm ζ R μ (pc + 2) (lv.set i (some (.ref x))) st cl sl n sh I Q) : Xm ζ R μ pc lv (.ref x :: st) cl sl n sh I Q := by
  intro Γ p l e s m args below meth c Z H locs ls C D
  exact lv_astore C.1 C.2.1 hd D.2.2.has hn rfl (fun ls' hl' => k Γ p l e s m args below meth c Z H locs ls' C ⟨D.1, D.2.1, D.2.2.set rfl hl'⟩)

theorem x_fstore_n {j : Fin 4} {i : Nat} {x : UInt32} (hd : decode μ.2.1 pc = .ok (.fstore_n j, 1)) (hi : (j : Nat) = i) (hn : i < μ.2.2.1) (k : Xm ζ R μ (pc + 1) (lv.set i (some (.float x))) st cl sl n sh I Q) : Xm ζ R μ pc lv (.float x :: st) cl sl n sh I Q := by
  intro Γ p l e s m args below meth c Z H locs ls C D
  exact lv_fstore_n C.1 C.2.1 hd hi D.2.2.has hn rfl (fun ls' hl' => k Γ p l e s m args below meth c Z H locs ls' C ⟨D.1, D.2.1, D.2.2.set rfl hl'⟩)

theorem x_iinc {i : Nat} {d : Int} {x v : Int32} (hd : decode μ.2.1 pc = .ok (.iinc i d, 3)) (hl : lv[i]? = some (some (.int x))) (hv : x + Int32.ofInt d = v) (hn : i < μ.2.2.1) (k : Xm ζ R μ (pc + 3) (lv.set i (some (.int v))) st cl sl n sh I Q) : Xm ζ R μ pc lv st cl sl n sh I Q := by
  intro Γ p l e s m args below meth c Z H locs ls C D
  obtain ⟨q, hq⟩ := List.getElem?_of_mem (sm_A_mem (ad := Γ.2.1) hl)
  exact lv_iinc C.1 C.2.1 hd D.2.2.has hq hv hn rfl (fun ls' hl' => k Γ p l e s m args below meth c Z H locs ls' C ⟨D.1, D.2.1, D.2.2.set rfl hl'⟩)

theorem x_if_eq {x : Int32} {off : Int} {tgt : Nat} (hd : decode μ.2.1 pc = .ok (.ifCond .eq off, 3)) (ht : (pc : Int) + off = (tgt : Int)) (kt : x = 0 → Xm ζ R μ tgt lv st cl sl n sh I Q) (kf : ¬ x = 0 → Xm ζ R μ (pc + 3) lv st cl sl n sh I Q) : Xm ζ R μ pc lv (.int x :: st) cl sl n sh I Q := by
  intro Γ p l e s m args below meth c Z H locs ls C D
  exact lv_if_eq C.1 C.2.1 hd ht (fun h => kt h Γ p l e s m args below meth c Z H locs ls C D) (fun h => kf h Γ p l e s m args below meth c Z H locs ls C D)

theorem x_icmp_eq {x y : Int32} {off : Int} {tgt : Nat} (hd : decode μ.2.1 pc = .ok (.if_icmp .eq off, 3)) (ht : (pc : Int) + off = (tgt : Int)) (kt : x = y → Xm ζ R μ tgt lv st cl sl n sh I Q) (kf : ¬ x = y → Xm ζ R μ (pc + 3) lv st cl sl n sh I Q) : Xm ζ R μ pc lv (.int y :: .int x :: st) cl sl n sh I Q := by
  intro Γ p l e s m args below meth c Z H locs ls C D
  exact lv_icmp_eq C.1 C.2.1 hd ht (fun h => kt h Γ p l e s m args below meth c Z H locs ls C D) (fun h => kf h Γ p l e s m args below meth c Z H locs ls C D)

theorem x_if_ne {x : Int32} {off : Int} {tgt : Nat} (hd : decode μ.2.1 pc = .ok (.ifCond .ne off, 3)) (ht : (pc : Int) + off = (tgt : Int)) (kt : ¬ x = 0 → Xm ζ R μ tgt lv st cl sl n sh I Q) (kf : x = 0 → Xm ζ R μ (pc + 3) lv st cl sl n sh I Q) : Xm ζ R μ pc lv (.int x :: st) cl sl n sh I Q := by
  intro Γ p l e s m args below meth c Z H locs ls C D
  exact lv_if_ne C.1 C.2.1 hd ht (fun h => kt h Γ p l e s m args below meth c Z H locs ls C D) (fun h => kf h Γ p l e s m args below meth c Z H locs ls C D)

theorem x_icmp_ne {x y : Int32} {off : Int} {tgt : Nat} (hd : decode μ.2.1 pc = .ok (.if_icmp .ne off, 3)) (ht : (pc : Int) + off = (tgt : Int)) (kt : ¬ x = y → Xm ζ R μ tgt lv st cl sl n sh I Q) (kf : x = y → Xm ζ R μ (pc + 3) lv st cl sl n sh I Q) : Xm ζ R μ pc lv (.int y :: .int x :: st) cl sl n sh I Q := by
  intro Γ p l e s m args below meth c Z H locs ls C D
  exact lv_icmp_ne C.1 C.2.1 hd ht (fun h => kt h Γ p l e s m args below meth c Z H locs ls C D) (fun h => kf h Γ p l e s m args below meth c Z H locs ls C D)

theorem x_if_lt {x : Int32} {off : Int} {tgt : Nat} (hd : decode μ.2.1 pc = .ok (.ifCond .lt off, 3)) (ht : (pc : Int) + off = (tgt : Int)) (kt : x < 0 → Xm ζ R μ tgt lv st cl sl n sh I Q) (kf : ¬ x < 0 → Xm ζ R μ (pc + 3) lv st cl sl n sh I Q) : Xm ζ R μ pc lv (.int x :: st) cl sl n sh I Q := by
  intro Γ p l e s m args below meth c Z H locs ls C D
  exact lv_if_lt C.1 C.2.1 hd ht (fun h => kt h Γ p l e s m args below meth c Z H locs ls C D) (fun h => kf h Γ p l e s m args below meth c Z H locs ls C D)

theorem x_icmp_lt {x y : Int32} {off : Int} {tgt : Nat} (hd : decode μ.2.1 pc = .ok (.if_icmp .lt off, 3)) (ht : (pc : Int) + off = (tgt : Int)) (kt : x < y → Xm ζ R μ tgt lv st cl sl n sh I Q) (kf : ¬ x < y → Xm ζ R μ (pc + 3) lv st cl sl n sh I Q) : Xm ζ R μ pc lv (.int y :: .int x :: st) cl sl n sh I Q := by
  intro Γ p l e s m args below meth c Z H locs ls C D
  exact lv_icmp_lt C.1 C.2.1 hd ht (fun h => kt h Γ p l e s m args below meth c Z H locs ls C D) (fun h => kf h Γ p l e s m args below meth c Z H locs ls C D)

theorem x_if_ge {x : Int32} {off : Int} {tgt : Nat} (hd : decode μ.2.1 pc = .ok (.ifCond .ge off, 3)) (ht : (pc : Int) + off = (tgt : Int)) (kt : 0 ≤ x → Xm ζ R μ tgt lv st cl sl n sh I Q) (kf : ¬ 0 ≤ x → Xm ζ R μ (pc + 3) lv st cl sl n sh I Q) : Xm ζ R μ pc lv (.int x :: st) cl sl n sh I Q := by
  intro Γ p l e s m args below meth c Z H locs ls C D
  exact lv_if_ge C.1 C.2.1 hd ht (fun h => kt h Γ p l e s m args below meth c Z H locs ls C D) (fun h => kf h Γ p l e s m args below meth c Z H locs ls C D)

theorem x_icmp_ge {x y : Int32} {off : Int} {tgt : Nat} (hd : decode μ.2.1 pc = .ok (.if_icmp .ge off, 3)) (ht : (pc : Int) + off = (tgt : Int)) (kt : y ≤ x → Xm ζ R μ tgt lv st cl sl n sh I Q) (kf : ¬ y ≤ x → Xm ζ R μ (pc + 3) lv st cl sl n sh I Q) : Xm ζ R μ pc lv (.int y :: .int x :: st) cl sl n sh I Q := by
  intro Γ p l e s m args below meth c Z H locs ls C D
  exact lv_icmp_ge C.1 C.2.1 hd ht (fun h => kt h Γ p l e s m args below meth c Z H locs ls C D) (fun h => kf h Γ p l e s m args below meth c Z H locs ls C D)

theorem x_if_gt {x : Int32} {off : Int} {tgt : Nat} (hd : decode μ.2.1 pc = .ok (.ifCond .gt off, 3)) (ht : (pc : Int) + off = (tgt : Int)) (kt : 0 < x → Xm ζ R μ tgt lv st cl sl n sh I Q) (kf : ¬ 0 < x → Xm ζ R μ (pc + 3) lv st cl sl n sh I Q) : Xm ζ R μ pc lv (.int x :: st) cl sl n sh I Q := by
  intro Γ p l e s m args below meth c Z H locs ls C D
  exact lv_if_gt C.1 C.2.1 hd ht (fun h => kt h Γ p l e s m args below meth c Z H locs ls C D) (fun h => kf h Γ p l e s m args below meth c Z H locs ls C D)

theorem x_icmp_gt {x y : Int32} {off : Int} {tgt : Nat} (hd : decode μ.2.1 pc = .ok (.if_icmp .gt off, 3)) (ht : (pc : Int) + off = (tgt : Int)) (kt : y < x → Xm ζ R μ tgt lv st cl sl n sh I Q) (kf : ¬ y < x → Xm ζ R μ (pc + 3) lv st cl sl n sh I Q) : Xm ζ R μ pc lv (.int y :: .int x :: st) cl sl n sh I Q := by
  intro Γ p l e s m args below meth c Z H locs ls C D
  exact lv_icmp_gt C.1 C.2.1 hd ht (fun h => kt h Γ p l e s m args below meth c Z H locs ls C D) (fun h => kf h Γ p l e s m args below meth c Z H locs ls C D)

theorem x_if_le {x : Int32} {off : Int} {tgt : Nat} (hd : decode μ.2.1 pc = .ok (.ifCond .le off, 3)) (ht : (pc : Int) + off = (tgt : Int)) (kt : x ≤ 0 → Xm ζ R μ tgt lv st cl sl n sh I Q) (kf : ¬ x ≤ 0 → Xm ζ R μ (pc + 3) lv st cl sl n sh I Q) : Xm ζ R μ pc lv (.int x :: st) cl sl n sh I Q := by
  intro Γ p l e s m args below meth c Z H locs ls C D
  exact lv_if_le C.1 C.2.1 hd ht (fun h => kt h Γ p l e s m args below meth c Z H locs ls C D) (fun h => kf h Γ p l e s m args below meth c Z H locs ls C D)

theorem x_icmp_le {x y : Int32} {off : Int} {tgt : Nat} (hd : decode μ.2.1 pc = .ok (.if_icmp .le off, 3)) (ht : (pc : Int) + off = (tgt : Int)) (kt : x ≤ y → Xm ζ R μ tgt lv st cl sl n sh I Q) (kf : ¬ x ≤ y → Xm ζ R μ (pc + 3) lv st cl sl n sh I Q) : Xm ζ R μ pc lv (.int y :: .int x :: st) cl sl n sh I Q := by
  intro Γ p l e s m args below meth c Z H locs ls C D
  exact lv_icmp_le C.1 C.2.1 hd ht (fun h => kt h Γ p l e s m args below meth c Z H locs ls C D) (fun h => kf h Γ p l e s m args below meth c Z H locs ls C D)

theorem x_goto {off : Int} {tgt : Nat} (hd : decode μ.2.1 pc = .ok (.goto off, 3)) (ht : (pc : Int) + off = (tgt : Int)) (k : Xm ζ R μ tgt lv st cl sl n sh I Q) : Xm ζ R μ pc lv st cl sl n sh I Q := by
  intro Γ p l e s m args below meth c Z H locs ls C D
  exact lv_goto C.1 C.2.1 hd ht (k Γ p l e s m args below meth c Z H locs ls C D)

theorem x_tableOut {dflt lo hi : Int} {offs : Array Int} {len : Nat} {x : Int32} {tgt : Nat} (hd : decode μ.2.1 pc = .ok (.tableswitch dflt lo hi offs, len)) (h : x.toInt < lo ∨ hi < x.toInt) (ht : (pc : Int) + dflt = (tgt : Int)) (k : Xm ζ R μ tgt lv st cl sl n sh I Q) : Xm ζ R μ pc lv (.int x :: st) cl sl n sh I Q := by
  intro Γ p l e s m args below meth c Z H locs ls C D
  exact lv_tableOut C.1 C.2.1 hd h ht (k Γ p l e s m args below meth c Z H locs ls C D)

theorem x_tableIn {dflt lo hi : Int} {offs : Array Int} {len : Nat} {x : Int32} {off : Int} {tgt : Nat} (hd : decode μ.2.1 pc = .ok (.tableswitch dflt lo hi offs, len)) (h1 : ¬ x.toInt < lo) (h2 : ¬ hi < x.toInt) (ho : offs[(x.toInt - lo).toNat]? = some off) (ht : (pc : Int) + off = (tgt : Int)) (k : Xm ζ R μ tgt lv st cl sl n sh I Q) : Xm ζ R μ pc lv (.int x :: st) cl sl n sh I Q := by
  intro Γ p l e s m args below meth c Z H locs ls C D
  exact lv_tableIn C.1 C.2.1 hd h1 h2 ho ht (k Γ p l e s m args below meth c Z H locs ls C D)

theorem x_ldcf {idx : Nat} {v : UInt32} (hd : decode μ.2.1 pc = .ok (.ldc idx, 2)) (hw : Cond.constantFloat μ.1.cls idx v ∈ lw_good) (k : Xm ζ R μ (pc + 2) lv (.float v :: st) cl sl n sh I Q) : Xm ζ R μ pc lv st cl sl n sh I Q := by
  intro Γ p l e s m args below meth c Z H locs ls C D
  exact lv_ldcf C.1 C.2.1 C.2.2.2.1 (C.2.2.2.2.1 _ hw) hd (k Γ p l e s m args below meth c Z H locs ls C D)

theorem x_ldc {idx : Nat} {v : Int32} (hd : decode μ.2.1 pc = .ok (.ldc idx, 2)) (hw : Cond.constant μ.1.cls idx v ∈ lw_good) (k : Xm ζ R μ (pc + 2) lv (.int v :: st) cl sl n sh I Q) : Xm ζ R μ pc lv st cl sl n sh I Q := by
  intro Γ p l e s m args below meth c Z H locs ls C D
  exact lv_ldc C.1 C.2.1 C.2.2.2.1 (C.2.2.2.2.1 _ hw) hd (k Γ p l e s m args below meth c Z H locs ls C D)

theorem x_ldcw {idx : Nat} {v : Int32} (hd : decode μ.2.1 pc = .ok (.ldc_w idx, 3)) (hw : Cond.constant μ.1.cls idx v ∈ lw_good) (k : Xm ζ R μ (pc + 3) lv (.int v :: st) cl sl n sh I Q) : Xm ζ R μ pc lv st cl sl n sh I Q := by
  intro Γ p l e s m args below meth c Z H locs ls C D
  exact lv_ldcw C.1 C.2.1 C.2.2.2.1 (C.2.2.2.2.1 _ hw) hd (k Γ p l e s m args below meth c Z H locs ls C D)

theorem x_ret {r : Option Value} (hr : sm_R μ r pc) (hc : cl ≤ R.cells) (hs : sl ≤ R.slots) (hq : Q r n sh I) : Xm ζ R μ pc lv r.toList cl sl n sh I Q := by
  intro Γ p l e s m args below meth c Z H locs ls C D
  have h := C.2.2.2.2.2.2.2 r n sh I H locs cl sl pc ls hc hs hq D.2.1 D.1 hr
  cases r <;> exact h
/-! ===== fields ===== -/
/-- a class of the worlds, with its words -/
def sm_Cl (ci : Nat) (K : String) (T : u_T) (N : Nat) (ty : Nat → FieldType) : Prop := vwCl[ci]? = some (K, T, N) ∧ (sm_ft ci).length = N ∧ (∀ w ∈ u_ws K T N, w ∈ lw_good) ∧ (∀ k, k < N → parseFieldDescriptor (T k).2.2.1 = some (ty k)) ∧ (∀ a, a < N → ∀ b, b < N → a ≠ b → (T a).2.1 ≠ (T b).2.1)
/-- field k of class ci, as the pool of own has it at idx; its type; whether it's final -/
def sm_Fl (own : String) (idx ci k : Nat) (t : FieldType) (fin : Bool) : Prop := ∃ (K : String) (T : u_T) (N : Nat) (ty : Nat → FieldType), sm_Cl ci K T N ty ∧ k < N ∧ ty k = t ∧ (T k).2.2.2 = fin ∧ Cond.fieldLink own idx (T k).1 (T k).2.1 (T k).2.2.1 ∈ lw_good ∧ (fin = true → (T k).1 = own)
def sm_Fg (own : String) (idx ci k : Nat) : Prop := ∃ (K : String) (T : u_T) (N : Nat) (ty : Nat → FieldType), sm_Cl ci K T N ty ∧ k < N ∧ Cond.fieldLink own idx (T k).1 (T k).2.1 (T k).2.2.1 ∈ lw_good
theorem sm_F_at {ad : Nat → Nat} {c k : Nat} {rs : List (Option Nat)} {f : Nat → Int32} (hk : k < (sm_ft c).length) : (sm_F ad c rs f)[k]? = some (if (sm_ft c).getD k false = true then .int (f k) else va_rf ((rs.getD k none).map ad)) := by
  unfold sm_F
  rw [List.getElem?_map, List.getElem?_range hk]
  rfl
theorem sm_F_len {ad : Nat → Nat} {c : Nat} {rs : List (Option Nat)} {f : Nat → Int32} : (sm_F ad c rs f).length = (sm_ft c).length := by simp [sm_F]
theorem sm_F_setI {ad : Nat → Nat} {c k : Nat} {rs : List (Option Nat)} {f : Nat → Int32} {v : Int32} (hi : (sm_ft c).getD k false = true) : (sm_F ad c rs f).set k (.int v) = sm_F ad c rs (upd f k v) := by
  apply List.ext_getElem?
  intro j
  by_cases hj : j < (sm_ft c).length
  · by_cases hjk : j = k
    · subst hjk
      rw [List.getElem?_set_self (by rw [sm_F_len]; exact hj), sm_F_at hj, if_pos hi]
      simp [upd]
    · rw [List.getElem?_set_ne (Ne.symm hjk), sm_F_at hj, sm_F_at hj]
      simp [upd, hjk]
  · rw [List.getElem?_eq_none (by rw [List.length_set, sm_F_len]; omega), List.getElem?_eq_none (by rw [sm_F_len]; omega)]
theorem sm_F_setR {ad : Nat → Nat} {c k b : Nat} {rs : List (Option Nat)} {f : Nat → Int32} (hi : (sm_ft c).getD k false = false) (hr : rs.length = (sm_ft c).length) : (sm_F ad c rs f).set k (.ref (ad b)) = sm_F ad c (rs.set k (some b)) f := by
  apply List.ext_getElem?
  intro j
  by_cases hj : j < (sm_ft c).length
  · by_cases hjk : j = k
    · subst hjk
      rw [List.getElem?_set_self (by rw [sm_F_len]; exact hj), sm_F_at hj, if_neg (by rw [hi]; decide), List.getD_eq_getElem?_getD, List.getElem?_set_self (by omega)]
      rfl
    · rw [List.getElem?_set_ne (Ne.symm hjk), sm_F_at hj, sm_F_at hj, List.getD_eq_getElem?_getD, List.getD_eq_getElem?_getD (l := rs.set k (some b)), List.getElem?_set_ne (Ne.symm hjk), List.getD_eq_getElem?_getD (l := rs)]
  · rw [List.getElem?_eq_none (by rw [List.length_set, sm_F_len]; omega), List.getElem?_eq_none (by rw [sm_F_len]; omega)]
theorem sm_one {D : va_G} {q : Nat × va_E} {H : Heap} (h : va_at D vwCl q H) : va_P D vwCl [q] H := by
  intro k x hx
  have hz : k < 1 := (List.getElem?_eq_some_iff.mp hx).1
  rw [show k = 0 by omega] at hx
  cases hx
  exact h
/-- behind a change of one cell -/
theorem sm_H.put {Γ : sm_G} {n a : Nat} {sh sh' : Nat → sm_S} {I I' : sm_I} {H H1 : Heap} (h : sm_H Γ n sh I H) (had : ∀ k, k < 1000000 → Γ.2.1 k = Γ.1 + k) (ha : a < n) (hz : H1.size = H.size) (ho : ∀ q, q ≠ Γ.2.1 a → H1[q]? = H[q]?) (hsh : ∀ b, b ≠ a → sh' b = sh b) (hI : ∀ b, b ≠ a → I' b = I b) (he : va_at Γ.2.2.1 vwCl (Γ.2.1 a, sm_E Γ.2.1 Γ.2.2.2.1 (sh' a) (I' a)) H1) : sm_H Γ n sh' I' H1 := by
  refine ⟨hz.trans h.1, h.2.1, fun b hb => ?_⟩
  by_cases hba : b = a
  · subst hba; exact he
  · rw [hsh b hba, hI b hba]
    refine (h.2.2 b hb).kept (ho _ ?_)
    have := h.2.1
    show Γ.2.1 b ≠ Γ.2.1 a
    rw [had b (by omega), had a (by omega)]
    omega
theorem sm_E_obj {ad : Nat → Nat} {g : Nat → ClassId} {q : sm_S} {f : Nat → Int32} {ci : Nat} {rs : List (Option Nat)} (h : q = (0, ci, rs)) : sm_E ad g q f = .inr (ci, sm_F ad ci rs f) := by subst h; rfl
theorem sm_E_arr {ad : Nat → Nat} {g : Nat → ClassId} {q : sm_S} {f : Nat → Int32} {t N : Nat} {rs : List (Option Nat)} (h : q = (t + 1, N, rs)) (ht : t < 3) : sm_E ad g q f = .inl (g t, N, .inl f) := by subst h; simp [sm_E, ht]
theorem sm_E_ref {ad : Nat → Nat} {g : Nat → ClassId} {q : sm_S} {f : Nat → Int32} {t N : Nat} {rs : List (Option Nat)} (h : q = (t + 1, N, rs)) (ht : 3 ≤ t) : sm_E ad g q f = .inl (g t, N, .inr (.inr (.inr (.inr (fun j => (rs.getD j none).map ad))))) := by subst h; simp [sm_E, Nat.not_lt.mpr ht]
theorem x_getI {idx ci k a : Nat} {rs : List (Option Nat)} (hd : decode μ.2.1 pc = .ok (.getfield idx, 3)) (hf : sm_Fg μ.1.cls idx ci k) (ha : a < n) (hs : sh a = (0, ci, rs)) (hi : (sm_ft ci).getD k false = true) (kk : Xm ζ R μ (pc + 3) lv (.int (I a k) :: st) cl sl n sh I Q) : Xm ζ R μ pc lv (.ref a :: st) cl sl n sh I Q := by
  intro Γ p l e s m args below meth c Z H locs ls C D
  obtain ⟨K, T, N, ty, ⟨h1, h2, h3, h4, h5⟩, hk, h8⟩ := hf
  have he := D.2.1.2.2 a ha
  rw [sm_E_obj hs] at he
  refine va_get (v := .int (I a k)) C.1 C.2.1 C.2.2.2.2.1 h3 C.2.2.2.1 C.2.2.2.2.2.2.1.2.1 (sm_one he) 0 rfl h1 k hk (C.2.2.2.2.1 _ h8) (fun _ h => h) ?_ hd (kk Γ p l e s m args below meth c Z H locs ls C D)
  rw [sm_F_at (by omega), if_pos hi]
theorem x_getR {idx ci k a b : Nat} {rs : List (Option Nat)} (hd : decode μ.2.1 pc = .ok (.getfield idx, 3)) (hf : sm_Fg μ.1.cls idx ci k) (ha : a < n) (hs : sh a = (0, ci, rs)) (hi : (sm_ft ci).getD k false = false) (hb : rs.getD k none = some b) (kk : Xm ζ R μ (pc + 3) lv (.ref b :: st) cl sl n sh I Q) : Xm ζ R μ pc lv (.ref a :: st) cl sl n sh I Q := by
  intro Γ p l e s m args below meth c Z H locs ls C D
  obtain ⟨K, T, N, ty, ⟨h1, h2, h3, h4, h5⟩, hk, h8⟩ := hf
  have he := D.2.1.2.2 a ha
  rw [sm_E_obj hs] at he
  refine va_get (v := .ref (Γ.2.1 b)) C.1 C.2.1 C.2.2.2.2.1 h3 C.2.2.2.1 C.2.2.2.2.2.2.1.2.1 (sm_one he) 0 rfl h1 k hk (C.2.2.2.2.1 _ h8) (fun _ h => h) ?_ hd (kk Γ p l e s m args below meth c Z H locs ls C D)
  rw [sm_F_at (by omega), if_neg (by rw [hi]; decide), hb]
  rfl
/-- putfield, any value: what the row gives, for the rules below -/
theorem sm_put {Γ : sm_G} {p : Program} {l : Launch} {e : Env} {s : State} {m : MethodId} {args : Array Value} {below : List Frame} {meth : Method} {c : Code} {Z : State → Prop} {H : Heap} {locs : List Loc} {ls : Array Slot} (C : sm_C ζ Γ R μ p l e s m args below meth c Z Q) (hS : va_S (fun q => Γ.1 ≤ q) s.heap H locs) (hH : sm_H Γ n sh I H)
    {idx ci k a : Nat} {t : FieldType} {fin : Bool} {rs : List (Option Nat)} {v : Value} {fs : List Value} {rest : List Value} (hd : decode μ.2.1 pc = .ok (.putfield idx, 3)) (hf : sm_Fl μ.1.cls idx ci k t fin) (hini : fin = true → μ.1.name = "<init>") (ha : a < n) (hs : sh a = (0, ci, rs)) (hn : narrow t v = v) (hfit : fits t v = true)
    {sh' : Nat → sm_S} {I' : sm_I} (hsh : ∀ b, b ≠ a → sh' b = sh b) (hI : ∀ b, b ≠ a → I' b = I b) (hE : sm_E Γ.2.1 Γ.2.2.2.1 (sh' a) (I' a) = .inr (ci, (sm_F Γ.2.1 ci rs (I a)).set k v))
    (kk : ∀ (H1 : Heap) (locs1 : List Loc), va_S (fun q => Γ.1 ≤ q) s.heap H1 locs1 → sm_H Γ n sh' I' H1 → W p l e R s m args below meth c H1 locs1 cl sl Z (F0 m (pc + 3) ls rest)) : W p l e R s m args below meth c H locs cl sl Z (F0 m pc ls (v :: .ref (Γ.2.1 a) :: rest)) := by
  obtain ⟨K, T, N, ty, ⟨h1, h2, h3, h4, h5⟩, hk, h6, h7, h8, h9⟩ := hf
  subst h6
  have hK := C.2.2.2.2.2.2.1
  have he := hH.2.2 a ha
  rw [sm_E_obj hs] at he
  have hts := C.2.2.2.2.1
  have hown := C.2.2.2.1
  have hap := va_apart (own := μ.1.cls) hts h3 ty h4 h5 hK.2.1 h1
  obtain ⟨r, g1, cell, q1, q2, q3, q4⟩ := he
  have hr : r = (K, T, N) := Option.some.inj (g1.symm.trans h1)
  subst hr
  obtain ⟨hSl, hfc, kC, hkC, hkind⟩ := hK.2.1.1 ci _ h1
  obtain ⟨cf, kf, fi, f, hi, hsl⟩ := hSl k hk
  have hlay := hts _ (h3 _ (u_in_lay hk))
  unfold u_lay at hlay
  have hst := (u_facts hfc hkC (u_lays hts h3 hk) hi).1
  have haA : Γ.1 ≤ Γ.2.1 a := by
    have := hH.2.1
    rw [hK.1 a (by omega)]; omega
  have key : ∀ H1 : Heap, H1[Γ.2.1 a]? = some (cell.setSlot f.slot v) → H1.size = H.size → (∀ q, q ≠ Γ.2.1 a → H1[q]? = H[q]?) → W p l e R s m args below meth c H1 (locs ++ [⟨Γ.2.1 a, f.slot⟩]) cl sl Z (F0 m (pc + 3) ls rest) := by
    intro H1 e1 e2 e3
    refine kk H1 _ (hS.put e2 e3 haA) (hH.put hK.1 ha e2 e3 hsh hI ?_)
    rw [hE]
    rw [hsl] at e1
    exact ⟨_, h1, t_OB.to (V := updV (vp_V (sm_F Γ.2.1 ci rs (I a))) k v) ⟨_, e1, q2, q3, t_set q4 hap hk v⟩ (fun j _ => vp_updV_set (by rw [sm_F_len]; omega) v j)⟩
  cases hfin : fin with
  | false =>
    rw [hfin] at h7
    rw [if_neg (by rw [h7]; decide)] at hlay
    have h10 := u_store hfc hkC hkind hlay hi (h4 k hk) hn hfit
    exact W.putK C.1 C.2.1 (f := f) ⟨hown, hts _ h8, ⟨_, _, _, hi⟩, hst⟩ (by rw [q2]; exact h10) q1 q3 (by rw [hsl]; exact k2_hasslot (q4 k hk)) rfl rfl hd key
  | true =>
    rw [hfin] at h7
    rw [if_pos h7] at hlay
    have hcf : m.cls = cf := by
      obtain ⟨_, _, c', _, _, _, -, -, hf', -, -, -, hown2, -⟩ := Cond.laysFinal_spec hlay
      have e1 : c' = cf := by have := hi.symm.trans hf'; simp at this; exact this.1.symm
      rw [h9 hfin] at hown2
      rw [← e1]; exact Option.some.inj (hown.symm.trans hown2)
    have h10 := u_fits hfc hkC hkind (Or.inr hlay) hi (h4 k hk) hn hfit
    exact W.putFinK C.1 C.2.1 hown (hts _ h8) hi hst hcf (C.2.2.2.2.2.1.trans (hini hfin)) (by rw [q2]; exact h10) q1 q3 (by rw [hsl]; exact k2_hasslot (q4 k hk)) rfl rfl hd key
theorem x_putI {idx ci k a : Nat} {t : FieldType} {fin : Bool} {rs : List (Option Nat)} {v : Int32} (hd : decode μ.2.1 pc = .ok (.putfield idx, 3)) (hf : sm_Fl μ.1.cls idx ci k t fin) (hini : fin = true → μ.1.name = "<init>") (ha : a < n) (hs : sh a = (0, ci, rs)) (hi : (sm_ft ci).getD k false = true) (hn : narrow t (.int v) = .int v) (hfit : fits t (.int v) = true) (kk : Xm ζ R μ (pc + 3) lv st cl sl n sh (up2 I a k v) Q) : Xm ζ R μ pc lv (.int v :: .ref a :: st) cl sl n sh I Q := by
  intro Γ p l e s m args below meth c Z H locs ls C D
  refine sm_put C D.1 D.2.1 (v := .int v) (fs := []) hd hf hini ha hs hn hfit (sh' := sh) (I' := up2 I a k v) (fun _ _ => rfl) (fun b hb => up2_ne hb) ?_ (fun H1 locs1 hS1 hH1 => kk Γ p l e s m args below meth c Z H1 locs1 ls C ⟨hS1, hH1, D.2.2⟩)
  rw [sm_E_obj hs, up2_row, sm_F_setI hi]
theorem x_putR {idx ci k a b : Nat} {t : FieldType} {fin : Bool} {rs : List (Option Nat)} (hd : decode μ.2.1 pc = .ok (.putfield idx, 3)) (hf : sm_Fl μ.1.cls idx ci k t fin) (hini : fin = true → μ.1.name = "<init>") (ha : a < n) (hs : sh a = (0, ci, rs)) (hi : (sm_ft ci).getD k false = false) (hl : rs.length = (sm_ft ci).length) (hn : ∀ x : Nat, narrow t (.ref x) = .ref x) (hfit : ∀ x : Nat, fits t (.ref x) = true) (kk : Xm ζ R μ (pc + 3) lv st cl sl n (va_up sh a (0, ci, rs.set k (some b))) I Q) : Xm ζ R μ pc lv (.ref b :: .ref a :: st) cl sl n sh I Q := by
  intro Γ p l e s m args below meth c Z H locs ls C D
  refine sm_put C D.1 D.2.1 (v := .ref (Γ.2.1 b)) (fs := []) hd hf hini ha hs (hn _) (hfit _) (sh' := va_up sh a (0, ci, rs.set k (some b))) (I' := I) (fun b hb => by simp [va_up, hb]) (fun b hb => rfl) ?_ (fun H1 locs1 hS1 hH1 => kk Γ p l e s m args below meth c Z H1 locs1 ls C ⟨hS1, hH1, D.2.2⟩)
  rw [show va_up sh a (0, ci, rs.set k (some b)) a = (0, ci, rs.set k (some b)) by simp [va_up], sm_E_obj rfl, sm_F_setR hi hl]
/-! ===== arrays ===== -/
theorem sm_ty_at {Γ : sm_G} {t : Nat} (ht : t < 6) : (sm_tys Γ.2.2.2.1)[t]? = some (Γ.2.2.2.1 t, sm_ty t) := by
  match t, ht with
  | 0, _ => rfl
  | 1, _ => rfl
  | 2, _ => rfl
  | 3, _ => rfl
  | 4, _ => rfl
  | 5, _ => rfl
theorem x_iald {a N : Nat} {i : Int32} {rs : List (Option Nat)} (hd : decode μ.2.1 pc = .ok (.iaload, 1)) (ha : a < n) (hs : sh a = (1, N, rs)) (hin : vp_in i N) (kk : Xm ζ R μ (pc + 1) lv (.int (I a i.toNatClampNeg) :: st) cl sl n sh I Q) : Xm ζ R μ pc lv (.int i :: .ref a :: st) cl sl n sh I Q := by
  intro Γ p l e s m args below meth c Z H locs ls C D
  have he := D.2.1.2.2 a ha
  rw [sm_E_arr (t := 0) hs (by decide)] at he
  exact va_iald C.1 C.2.1 C.2.2.2.2.2.2.1.2.1 (sm_one he) 0 0 rfl rfl hin hd (kk Γ p l e s m args below meth c Z H locs ls C D)
theorem x_zald {a N : Nat} {i : Int32} {rs : List (Option Nat)} (hd : decode μ.2.1 pc = .ok (.baload, 1)) (ha : a < n) (hs : sh a = (2, N, rs)) (hin : vp_in i N) (kk : Xm ζ R μ (pc + 1) lv (.int (I a i.toNatClampNeg) :: st) cl sl n sh I Q) : Xm ζ R μ pc lv (.int i :: .ref a :: st) cl sl n sh I Q := by
  intro Γ p l e s m args below meth c Z H locs ls C D
  have he := D.2.1.2.2 a ha
  rw [sm_E_arr (t := 1) hs (by decide)] at he
  exact va_zald C.1 C.2.1 C.2.2.2.2.2.2.1.2.1 (sm_one he) 0 1 rfl rfl hin hd (kk Γ p l e s m args below meth c Z H locs ls C D)
theorem x_bald {a N : Nat} {i : Int32} {rs : List (Option Nat)} (hd : decode μ.2.1 pc = .ok (.baload, 1)) (ha : a < n) (hs : sh a = (3, N, rs)) (hin : vp_in i N) (kk : Xm ζ R μ (pc + 1) lv (.int (I a i.toNatClampNeg) :: st) cl sl n sh I Q) : Xm ζ R μ pc lv (.int i :: .ref a :: st) cl sl n sh I Q := by
  intro Γ p l e s m args below meth c Z H locs ls C D
  have he := D.2.1.2.2 a ha
  rw [sm_E_arr (t := 2) hs (by decide)] at he
  exact va_bald C.1 C.2.1 C.2.2.2.2.2.2.1.2.1 (sm_one he) 0 2 rfl rfl hin hd (kk Γ p l e s m args below meth c Z H locs ls C D)
theorem x_aald {a N t b : Nat} {i : Int32} {rs : List (Option Nat)} (hd : decode μ.2.1 pc = .ok (.aaload, 1)) (ha : a < n) (hs : sh a = (t + 1, N, rs)) (ht : 3 ≤ t ∧ t < 6) (hin : vp_in i N) (hb : rs.getD i.toNatClampNeg none = some b) (kk : Xm ζ R μ (pc + 1) lv (.ref b :: st) cl sl n sh I Q) : Xm ζ R μ pc lv (.int i :: .ref a :: st) cl sl n sh I Q := by
  intro Γ p l e s m args below meth c Z H locs ls C D
  have he := D.2.1.2.2 a ha
  rw [sm_E_ref hs ht.1] at he
  have hty : ∃ K, sm_ty t = .object K := by
    obtain ⟨h3, h6⟩ := ht
    rcases (show t = 3 ∨ t = 4 ∨ t = 5 by omega) with rfl | rfl | rfl <;> exact ⟨_, rfl⟩
  obtain ⟨K, hK⟩ := hty
  have hk := kk Γ p l e s m args below meth c Z H locs ls C D
  refine va_aldq (C := K) C.1 C.2.1 C.2.2.2.2.2.2.1.2.1 (sm_one he) 0 t rfl (by rw [sm_ty_at ht.2, hK]) hin hd ?_
  rw [hb]
  exact hk
theorem x_alen {a N t : Nat} {rs : List (Option Nat)} (hd : decode μ.2.1 pc = .ok (.arraylength, 1)) (ha : a < n) (hs : sh a = (t + 1, N, rs)) (ht : t < 3) (kk : Xm ζ R μ (pc + 1) lv (.int (Int32.ofNat N) :: st) cl sl n sh I Q) : Xm ζ R μ pc lv (.ref a :: st) cl sl n sh I Q := by
  intro Γ p l e s m args below meth c Z H locs ls C D
  have he := D.2.1.2.2 a ha
  rw [sm_E_arr hs ht] at he
  exact va_alen C.1 C.2.1 C.2.2.2.2.2.2.1.2.1 (sm_one he) 0 t rfl (sm_ty_at (by omega)) rfl hd (kk Γ p l e s m args below meth c Z H locs ls C D)
theorem sm_base {Γ : sm_G} (had : ∀ k, k < 1000000 → Γ.2.1 k = Γ.1 + k) {H : Heap} (hH : sm_H Γ n sh I H) {a : Nat} (ha : a < n) : Γ.1 ≤ Γ.2.1 a := by
  have := hH.2.1
  rw [had a (by omega)]; omega
theorem sm_row {cA : ClassId} {N k : Nat} {f : Nat → Int32} {v : Int32} : (arrV cA N (fun j => .int (f j))).setSlot k (.int v) = arrV cA N (fun j => .int (upd f k v j)) := by
  rw [arrV_store]
  congr 1
  funext q
  by_cases hq : q = k
  · subst hq; simp [updV, upd]
  · simp [updV, upd, hq]
theorem x_iast {a N : Nat} {i v : Int32} {rs : List (Option Nat)} (hd : decode μ.2.1 pc = .ok (.iastore, 1)) (ha : a < n) (hs : sh a = (1, N, rs)) (hin : vp_in i N) (kk : Xm ζ R μ (pc + 1) lv st cl sl n sh (up2 I a i.toNatClampNeg v) Q) : Xm ζ R μ pc lv (.int v :: .int i :: .ref a :: st) cl sl n sh I Q := by
  intro Γ p l e s m args below meth c Z H locs ls C D
  have hK := C.2.2.2.2.2.2.1
  have he := D.2.1.2.2 a ha
  rw [sm_E_arr (t := 0) hs (by decide)] at he
  refine W.iast C.1 C.2.1 he ((hK.2.1.2 0 _ rfl).1 N (fun j => .int (I a j))) (fun q => by cases q) (by show ¬ (i < 0 ∨ (arrV _ _ _).slots.size ≤ _); rw [arrV_size]; exact hin) rfl rfl hd fun H1 e1 z oq => ?_
  refine kk Γ p l e s m args below meth c Z H1 _ ls C ⟨D.1.put z oq (sm_base hK.1 D.2.1 ha), D.2.1.put hK.1 ha z oq (fun _ _ => rfl) (fun b hb => up2_ne hb) ?_, D.2.2⟩
  rw [sm_E_arr (t := 0) hs (by decide), up2_row]
  exact e1.trans (congrArg some sm_row)
theorem x_bast {a N : Nat} {i v w : Int32} {rs : List (Option Nat)} (hd : decode μ.2.1 pc = .ok (.bastore, 1)) (ha : a < n) (hs : sh a = (3, N, rs)) (hin : vp_in i N) (hw : narrow .byte (.int v) = .int w) (kk : Xm ζ R μ (pc + 1) lv st cl sl n sh (up2 I a i.toNatClampNeg w) Q) : Xm ζ R μ pc lv (.int v :: .int i :: .ref a :: st) cl sl n sh I Q := by
  intro Γ p l e s m args below meth c Z H locs ls C D
  have hK := C.2.2.2.2.2.2.1
  have he := D.2.1.2.2 a ha
  rw [sm_E_arr (t := 2) hs (by decide)] at he
  refine W.bast C.1 C.2.1 he ((hK.2.1.2 2 _ rfl).1 N (fun j => .int (I a j))) (fun q => by cases q) (by show ¬ (i < 0 ∨ (arrV _ _ _).slots.size ≤ _); rw [arrV_size]; exact hin) rfl rfl hd fun H1 e1 z oq => ?_
  rw [hw] at e1
  refine kk Γ p l e s m args below meth c Z H1 _ ls C ⟨D.1.put z oq (sm_base hK.1 D.2.1 ha), D.2.1.put hK.1 ha z oq (fun _ _ => rfl) (fun b hb => up2_ne hb) ?_, D.2.2⟩
  rw [sm_E_arr (t := 2) hs (by decide), up2_row]
  exact e1.trans (congrArg some sm_row)
theorem x_zast {a N : Nat} {i v w : Int32} {rs : List (Option Nat)} (hd : decode μ.2.1 pc = .ok (.bastore, 1)) (ha : a < n) (hs : sh a = (2, N, rs)) (hin : vp_in i N) (hw : narrow .boolean (.int v) = .int w) (kk : Xm ζ R μ (pc + 1) lv st cl sl n sh (up2 I a i.toNatClampNeg w) Q) : Xm ζ R μ pc lv (.int v :: .int i :: .ref a :: st) cl sl n sh I Q := by
  intro Γ p l e s m args below meth c Z H locs ls C D
  have hK := C.2.2.2.2.2.2.1
  have he := D.2.1.2.2 a ha
  rw [sm_E_arr (t := 1) hs (by decide)] at he
  refine W.zast C.1 C.2.1 he ((hK.2.1.2 1 _ rfl).1 N (fun j => .int (I a j))) (fun q => by cases q) (by show ¬ (i < 0 ∨ (arrV _ _ _).slots.size ≤ _); rw [arrV_size]; exact hin) rfl rfl hd fun H1 e1 z oq => ?_
  rw [hw] at e1
  refine kk Γ p l e s m args below meth c Z H1 _ ls C ⟨D.1.put z oq (sm_base hK.1 D.2.1 ha), D.2.1.put hK.1 ha z oq (fun _ _ => rfl) (fun b hb => up2_ne hb) ?_, D.2.2⟩
  rw [sm_E_arr (t := 1) hs (by decide), up2_row]
  exact e1.trans (congrArg some sm_row)
/-- a reference into an array of references (constructors alone do that) -/
theorem x_aast {a b N t ci : Nat} {i : Int32} {rs qs : List (Option Nat)} {K : vw_C} (hd : decode μ.2.1 pc = .ok (.aastore, 1)) (ha : a < n) (hs : sh a = (t + 1, N, rs)) (ht : 3 ≤ t ∧ t < 6) (hb : b < n) (hsb : sh b = (0, ci, qs)) (hc : vwCl[ci]? = some K) (hty : sm_ty t = .object K.1) (hin : vp_in i N) (hl : rs.length = N) (kk : Xm ζ R μ (pc + 1) lv st cl sl n (va_up sh a (t + 1, N, rs.set i.toNatClampNeg (some b))) I Q) : Xm ζ R μ pc lv (.ref b :: .int i :: .ref a :: st) cl sl n sh I Q := by
  intro Γ p l e s m args below meth c Z H locs ls C D
  have hK := C.2.2.2.2.2.2.1
  have he := D.2.1.2.2 a ha
  rw [sm_E_ref hs ht.1] at he
  have hv := D.2.1.2.2 b hb
  rw [sm_E_obj hsb] at hv
  have hlt : i.toNatClampNeg < N := Nat.not_le.mp fun q => hin (Or.inr q)
  have h0 : ¬ i < 0 := fun q => hin (Or.inl q)
  obtain ⟨r', hr', cellV, g1, g2, g3, -⟩ := hv
  have hcls := (hK.2.1.1 ci K hc).2
  have hRA := (hK.2.1.2 t _ (sm_ty_at ht.2)).2
  dsimp only at hRA
  rw [hty] at hRA
  obtain ⟨kA, comp, k1, k2, k3, -⟩ := hRA
  have hcomp : comp = Γ.2.2.1.1 ci := Option.some.inj (k3.symm.trans hcls.1)
  subst hcomp
  obtain ⟨kC, hkC, -⟩ := hcls.2
  refine W.aast C.1 C.2.1 he (fun q h => by cases h) (fun h => by cases h) k1 k2 rfl hkC ⟨h0, by show _ < (arrV _ _ _).slots.size; rw [arrV_size]; exact hlt⟩ g1 (fun q h => by rw [g3] at h; cases h) (by rw [g2]; exact hkC) (by rw [g2]; exact va_assign hcls) rfl rfl hd fun H1 e1 z oq => ?_
  refine kk Γ p l e s m args below meth c Z H1 _ ls C ⟨D.1.put z oq (sm_base hK.1 D.2.1 ha), D.2.1.put hK.1 ha z oq (fun b hb => by simp [va_up, hb]) (fun b hb => rfl) ?_, D.2.2⟩
  rw [show va_up sh a (t + 1, N, rs.set i.toNatClampNeg (some b)) a = (t + 1, N, rs.set i.toNatClampNeg (some b)) by simp [va_up], sm_E_ref rfl ht.1]
  refine e1.trans (congrArg some ?_)
  show (arrV _ _ _).setSlot _ _ = vp_cell _ _
  rw [vp_cell_q, arrV_store]
  congr 1
  funext q
  by_cases hq : q = i.toNatClampNeg
  · subst hq
    simp [updV, va_rf, List.getD_eq_getElem?_getD, hl, hlt]
  · simp [updV, hq, List.getD_eq_getElem?_getD, List.getElem?_set_ne (Ne.symm hq)]
/-! ===== new cells ===== -/
theorem sm_H.push {Γ : sm_G} {q : sm_S} {f : Nat → Int32} {H H1 : Heap} (h : sm_H Γ n sh I H) (had : ∀ k, k < 1000000 → Γ.2.1 k = Γ.1 + k) (hn : n < 1000000) (hz : H1.size = H.size + 1) (ho : ∀ q, q < H.size → H1[q]? = H[q]?) (he : va_at Γ.2.2.1 vwCl (H.size, sm_E Γ.2.1 Γ.2.2.2.1 q f) H1) : sm_H Γ (n + 1) (va_up sh n q) (va_up I n f) H1 := by
  refine ⟨by rw [hz, h.1]; omega, by omega, fun b hb => ?_⟩
  by_cases hbn : b = n
  · subst hbn
    rw [show va_up sh b q b = q by simp [va_up], show va_up I b f b = f by simp [va_up], had b hn, ← h.1]
    exact he
  · rw [show va_up sh n q b = sh b by simp [va_up, hbn], show va_up I n f b = I b by simp [va_up, hbn]]
    exact (h.2.2 b (by omega)).kept (ho _ ((h.2.2 b (by omega)).lt))
theorem sm_S_push {Γ : sm_G} {s : State} {H H1 : Heap} {locs : List Loc} (hS : va_S (fun q => Γ.1 ≤ q) s.heap H locs) (hz : H1.size = H.size + 1) (ho : ∀ q, q < H.size → H1[q]? = H[q]?) : va_S (fun q => Γ.1 ≤ q) s.heap H1 locs :=
  ⟨Nat.le_trans hS.1 (by omega), fun x h1 h2 => (ho x (Nat.lt_of_lt_of_le h1 hS.1)).trans (hS.2.1 x h1 h2), hS.2.2⟩
theorem sm_new {Γ : sm_G} {H : Heap} (h : sm_H Γ n sh I H) (had : ∀ k, k < 1000000 → Γ.2.1 k = Γ.1 + k) (hn : n < 1000000) : Γ.2.1 n = H.size := by rw [had n hn, h.1]
theorem x_newa {atype : ArrayType} {t N : Nat} {v : Int32} (hd : decode μ.2.1 pc = .ok (.newarray atype, 2)) (ht : t < 3) (hty : newarray.typeOf atype = sm_ty t) (hdf : defaultValue (sm_ty t) = .int 0) (hw : Cond.arrayClass (newarray.typeOf atype) ∈ lw_good) (hv : ¬ v < 0) (hN : v.toNatClampNeg = N) (hby : N * componentBytes (newarray.typeOf atype) ≤ 536870912) (hc : cl + 1 ≤ R.cells) (hsl : sl + N ≤ R.slots) (hn : n < 1000000)
    (kk : Xm ζ R μ (pc + 2) lv (.ref n :: st) (cl + 1) (sl + N) (n + 1) (va_up sh n (t + 1, N, [])) (va_up I n (fun _ => 0)) Q) : Xm ζ R μ pc lv (.int v :: st) cl sl n sh I Q := by
  intro Γ p l e s m args below meth c Z H locs ls C D
  have hK := C.2.2.2.2.2.2.1
  refine va_newaK C.1 C.2.1 (C.2.2.2.2.1 _ hw) rfl hd rfl hv hN hby hc hsl rfl fun H1 cA e1 z1 o1 hAr hNm => ?_
  have hk := kk Γ p l e s m args below meth c Z H1 locs ls C ⟨sm_S_push D.1 z1 o1, D.2.1.push hK.1 hn z1 o1 ?_, D.2.2⟩
  · rw [← sm_new D.2.1 hK.1 hn]
    exact hk
  · rw [sm_E_arr rfl ht]
    have hcA : cA = Γ.2.2.2.1 t := by
      have h1 := (hK.2.1.2 t _ (sm_ty_at (by omega))).2
      rw [hty] at hNm
      match t, ht with
      | 0, _ => exact Option.some.inj (hNm.symm.trans h1)
      | 1, _ => exact Option.some.inj (hNm.symm.trans h1)
      | 2, _ => exact Option.some.inj (hNm.symm.trans h1)
    subst hcA
    rw [hty, hdf] at e1
    exact e1
theorem x_newq {idx t N : Nat} {K : String} {v : Int32} (hd : decode μ.2.1 pc = .ok (.anewarray idx, 3)) (ht : 3 ≤ t ∧ t < 6) (hty : sm_ty t = .object K) (hw : Cond.classLink μ.1.cls idx K ∈ lw_good) (hv : ¬ v < 0) (hN : v.toNatClampNeg = N) (hby : N * 4 ≤ 536870912) (hc : cl + 1 ≤ R.cells) (hsl : sl + N ≤ R.slots) (hn : n < 1000000)
    (kk : Xm ζ R μ (pc + 3) lv (.ref n :: st) (cl + 1) (sl + N) (n + 1) (va_up sh n (t + 1, N, List.replicate N none)) (va_up I n (fun _ => 0)) Q) : Xm ζ R μ pc lv (.int v :: st) cl sl n sh I Q := by
  intro Γ p l e s m args below meth c Z H locs ls C D
  have hK := C.2.2.2.2.2.2.1
  have hAO : va_AO K s := by
    obtain ⟨a1, a2, a3, -, -⟩ := hK.2.2.1
    obtain ⟨h3, h6⟩ := ht
    rcases (show t = 3 ∨ t = 4 ∨ t = 5 by omega) with rfl | rfl | rfl <;> (cases hty; assumption)
  subst hN
  refine W.anew C.1 C.2.1 C.2.2.2.1 (C.2.2.2.2.1 _ hw) (va_AO.use hAO) rfl hd rfl hv hby hc hsl fun cA kA comp f1 f2 f3 f4 => ?_
  generalize hH1 : H.push ({ cls := cA, slots := Array.replicate v.toNatClampNeg .null, vm := .none } : Cell) = H1
  have z1 : H1.size = H.size + 1 := by rw [← hH1, Array.size_push]
  have e1 : H1[H.size]? = some (arrV cA v.toNatClampNeg (fun _ => .null)) := by rw [← hH1, Array.getElem?_push_size, ← arrV_new]
  have o1 : ∀ q : Nat, q < H.size → H1[q]? = H[q]? := fun q hq => by rw [← hH1, Array.getElem?_push, if_neg (Nat.ne_of_lt hq)]
  have hk := kk Γ p l e s m args below meth c Z H1 locs ls C ⟨sm_S_push D.1 z1 o1, D.2.1.push hK.1 hn z1 o1 ?_, D.2.2⟩
  · rw [← sm_new D.2.1 hK.1 hn]
    exact hk
  · rw [sm_E_ref rfl ht.1]
    have hcA : cA = Γ.2.2.2.1 t := by
      have h1 := (hK.2.1.2 t _ (sm_ty_at ht.2)).2
      dsimp only at h1
      rw [hty] at h1
      obtain ⟨kA', comp', -, -, -, h9⟩ := h1
      exact Option.some.inj (f1.symm.trans h9)
    subst hcA
    show H1[H.size]? = some (vp_cell _ _)
    rw [vp_cell_q, e1]
    congr 2
    funext j
    rw [List.getD_eq_getElem?_getD]
    by_cases hj : j < v.toNatClampNeg
    · rw [List.getElem?_replicate, if_pos hj]; rfl
    · rw [List.getElem?_replicate, if_neg hj]; rfl
theorem x_new {idx ci N : Nat} {K : String} {T : u_T} {ty : Nat → FieldType} (hd : decode μ.2.1 pc = .ok (.new idx, 3)) (hcl : sm_Cl ci K T N ty) (hdf : ∀ j, j < N → defaultValue (ty j) = if (sm_ft ci).getD j false = true then .int 0 else .null) (hw : Cond.classLink μ.1.cls idx K ∈ lw_good) (hw2 : Cond.instantiable K N ∈ lw_good) (hw3 : Cond.initialized K ∈ lw_good) (hc : cl + 1 ≤ R.cells) (hsl : sl + N ≤ R.slots) (hn : n < 1000000)
    (kk : Xm ζ R μ (pc + 3) lv (.ref n :: st) (cl + 1) (sl + N) (n + 1) (va_up sh n (0, ci, List.replicate N none)) (va_up I n (fun _ => 0)) Q) : Xm ζ R μ pc lv st cl sl n sh I Q := by
  intro Γ p l e s m args below meth c Z H locs ls C D
  have hK := C.2.2.2.2.2.2.1
  obtain ⟨h1, h2, h3, h4, h5⟩ := hcl
  have hKn := hK.2.1.1 ci _ h1
  refine W.newcK C.1 C.2.1 C.2.2.2.1 (C.2.2.2.2.1 _ hw) (C.2.2.2.2.1 _ hw2) (C.2.2.2.2.1 _ hw3) rfl hd hc hsl hKn.2.1 rfl fun H1 kC hkC e1 z1 o1 => ?_
  have hk := kk Γ p l e s m args below meth c Z H1 locs ls C ⟨sm_S_push D.1 z1 o1, D.2.1.push hK.1 hn z1 o1 ?_, D.2.2⟩
  · rw [← sm_new D.2.1 hK.1 hn]
    exact hk
  · rw [sm_E_obj rfl]
    refine ⟨_, h1, (u_born ty C.2.2.2.2.1 h3 hKn hkC e1 h4).to (fun j hj => ?_)⟩
    rw [hdf j hj]
    have hA := sm_F_at (ad := Γ.2.1) (rs := List.replicate N none) (f := fun _ => 0) (c := ci) (k := j) (by omega)
    show _ = (sm_F Γ.2.1 ci (List.replicate N none) fun _ => 0).getD j Value.null
    rw [List.getD_eq_getElem?_getD (l := sm_F Γ.2.1 ci (List.replicate N none) fun _ => 0), hA]
    by_cases hi : (sm_ft ci).getD j false = true
    · rw [if_pos hi, if_pos hi]; rfl
    · rw [if_neg hi, if_neg hi, List.getD_eq_getElem?_getD, List.getElem?_replicate, if_pos hj]; rfl
theorem x_objInit {idx a : Nat} (hd : decode μ.2.1 pc = .ok (.invokespecial idx, 3)) (hw : Cond.methodLink μ.1.cls idx objectInit ∈ lw_good) (hw2 : Cond.instanceMethod objectInit ∈ lw_good) (hw3 : Cond.code objectInit ⟨#[0xb1]⟩ 1 none ∈ lw_good) (hf : 1 ≤ R.frames) (hlo : (st.map fun v => v.category).sum + 12 ≤ R.locals) (kk : Xm ζ R μ (pc + 3) lv st cl sl n sh I Q) : Xm ζ R μ pc lv (.ref a :: st) cl sl n sh I Q := by
  intro Γ p l e s m args below meth c Z H locs ls C D
  have hcat : ((st.map (sm_V Γ.2.1)).map fun v => v.category) = st.map fun v => v.category := by
    rw [List.map_map]
    exact List.map_congr_left fun v _ => sm_V_cat _ v
  refine W.objInit C.1 C.2.1 C.2.2.2.1 (C.2.2.2.2.1 _ hw) (C.2.2.2.2.1 _ hw2) (C.2.2.2.2.1 _ hw3) rfl (by rw [C.2.2.1]; exact D.2.2.1) rfl hd hf ?_ (kk Γ p l e s m args below meth c Z H locs ls C D)
  rw [hcat]
  show 2 * 0 + _ + 12 ≤ _
  omega
/-! ===== calls ===== -/
theorem sm_call {Γ : sm_G} {p : Program} {l : Launch} {e : Env} {s : State} {m : MethodId} {args : Array Value} {below : List Frame} {meth : Method} {c : Code} {Z : State → Prop} {H : Heap} {locs : List Loc} {ls : Array Slot} {mc ms : Nat} {st0 rest : List Value} {a : Array Value} {Q' : sm_Qt}
    (hr : va_Run p l e R s m args below meth c H locs cl sl mc ms (F0 m pc ls st0) rest (sm_Qc Γ Q' a) (fun q => Γ.1 ≤ q)) (hS : va_S (fun q => Γ.1 ≤ q) s.heap H locs)
    (kk : ∀ (r : Option Value) (n' : Nat) (sh' : Nat → sm_S) (I' : sm_I) (H1 : Heap) (locs1 : List Loc), Q' r n' sh' I' → sm_H Γ n' sh' I' H1 → va_S (fun q => Γ.1 ≤ q) s.heap H1 locs1 → W p l e R s m args below meth c H1 locs1 (cl + mc) (sl + ms) Z (F0 m (pc + 3) ls ((r.map (sm_V Γ.2.1)).toList ++ rest))) : W p l e R s m args below meth c H locs cl sl Z (F0 m pc ls st0) := by
  intro T hT X
  obtain ⟨v, st₀, t, T', L, h0, X', hL, e1, e2, ⟨⟨r, n', sh', I', hv, hq, hH⟩, hz, hk⟩, st⟩ := hr T hT X
  rw [h0] at hz hk
  have hv' : v = r.map (sm_V Γ.2.1) := Outcome.returned.inj hv
  subst hv'
  obtain ⟨t2, a1, b1⟩ := kk r n' sh' I' T'.heap (locs ++ L) hq (by rw [e1]; exact hH)
    ⟨Nat.le_trans hS.1 (by rw [e1]; exact hz), fun q h1 h2 => by rw [e1, hk q (Nat.lt_of_lt_of_le h1 hS.1) h2]; exact hS.2.1 q h1 h2, fun q hq => by
      rcases List.mem_append.mp hq with h | h
      · exact hS.2.2 q h
      · exact hL q h⟩ T' rfl X'
  exact ⟨t2, st t2 a1, b1⟩
/-- a method that can be called: its words -/
def sm_Me (μ' : sm_Mu) (k : Nat) : Prop := Cond.code μ'.1 μ'.2.1 μ'.2.2.1 μ'.2.2.2 ∈ lw_good ∧ Cond.initialized μ'.1.cls ∈ lw_good ∧ (μ'.1.cls ≠ "java/lang/invoke/MethodHandle" ∧ μ'.1.cls ≠ "java/lang/invoke/VarHandle") ∧ (parseMethodDescriptor μ'.1.desc).map (fun d => d.parameters.length) = some k
theorem sm_good_pay {args : Array Value} {s : State} (hts : ∀ w ∈ lw_good, w.before args s = true) {μ' : sm_Mu} (h : Cond.code μ'.1 μ'.2.1 μ'.2.2.1 μ'.2.2.2 ∈ lw_good) : ∀ w ∈ sm_ws μ', ∀ (a' : Array Value) (U : State), s.WarmedH U.vm → w.before a' U = true := by
  refine pay_in hts (fun w hw => ?_)
  rcases List.mem_cons.mp hw with rfl | hw
  · exact ⟨h, good_of_word (lw_good_good h)⟩
  · exact ⟨hw, good_of_word (lw_good_good hw)⟩
theorem sm_CB {s : State} {args : Array Value} {own : String} {idx d mc ms k : Nat} {μ' : sm_Mu} (hts : ∀ w ∈ lw_good, w.before args s = true) (hm : sm_Me μ' k) (hl : Cond.methodLink own idx μ'.1 ∈ lw_good) (hroom : d + 1 ≤ R.frames ∧ 8 + (μ'.2.2.1 + 11) + 40 * d ≤ R.locals) : CallB R s args own idx μ'.1 μ'.2.1 μ'.2.2.1 μ'.2.2.2 (sm_ws μ') (sm_rm d mc ms) mc ms k := by
  obtain ⟨h1, h2, h3, h4⟩ := hm
  refine ⟨rfl, rfl, hroom.1, hroom.2, sm_good_pay hts h1, List.mem_cons_self, hts _ h1, hts _ h2, h3, fun sig h => ?_, hts _ hl⟩
  rw [h] at h4
  exact (Option.some.inj h4).symm
theorem sm_catsum (ad : Nat → Nat) (st : List Value) : ((st.map (sm_V ad)).map fun v => v.category) = st.map fun v => v.category := by
  rw [List.map_map]
  exact List.map_congr_left fun v _ => sm_V_cat _ v
theorem x_callV {idx d mc ms a ci : Nat} {μ' : sm_Mu} {as stk : List Value} {Q' : sm_Qt} {rs : List (Option Nat)} {K : vw_C} (hd : decode μ.2.1 pc = .ok (.invokevirtual idx, 3)) (hE : Em d mc ms μ' (.ref a :: as) n sh I Q') (hstk : stk = as.reverse ++ .ref a :: st) (hm : sm_Me μ' as.length) (hin : Cond.instanceMethod μ'.1 ∈ lw_good) (hsel : Cond.selects μ'.1.cls μ'.1 μ'.1 ∈ lw_good) (hl : Cond.methodLink μ.1.cls idx μ'.1 ∈ lw_good) (ha : a < n) (hs : sh a = (0, ci, rs)) (hc : vwCl[ci]? = some K) (hK : K.1 = μ'.1.cls)
    (hroom : d + 1 ≤ R.frames ∧ 8 + (μ'.2.2.1 + 11) + 40 * d ≤ R.locals) (hcs : cl + mc ≤ R.cells ∧ sl + ms ≤ R.slots) (hst : (st.map fun v => v.category).sum ≤ 8)
    (kk : ∀ r n' sh' I', Q' r n' sh' I' → Xm ζ R μ (pc + 3) lv (r.toList ++ st) (cl + mc) (sl + ms) n' sh' I' Q) : Xm ζ R μ pc lv stk cl sl n sh I Q := by
  intro Γ p l e s m args below meth c Z H locs ls C D
  subst hstk
  have hKs := C.2.2.2.2.2.2.1
  have hts := C.2.2.2.2.1
  have he := D.2.1.2.2 a ha
  rw [sm_E_obj hs] at he
  obtain ⟨r', g1, cell, q1, q2, q3, -⟩ := he
  refine sm_call (rest := st.map (sm_V Γ.2.1)) (va_runV (As := as.map (sm_V Γ.2.1)) (rest := st.map (sm_V Γ.2.1)) (b := Γ.2.1 a) (C := μ'.1.cls) ⟨C.1, C.2.1, C.2.2.1, C.2.2.2.1, hts⟩ (hE ζ l Γ) ⟨sm_CB hts hm hl hroom, hts _ hin, hts _ hsel⟩ ⟨sm_Pc.blind, ⟨cell, q1, by rw [q3]; rfl, ?_⟩, fun U hU hW => ⟨rfl, by rw [hU]; exact D.2.1, hKs.pass hW (by rw [hU]; exact D.1)⟩⟩ rfl (List.length_map ..) D.2.2.1 ?_ ?_ hd hcs) D.1 (fun r n' sh' I' H1 locs1 hq hH1 hS1 => ?_)
  · rw [q2, ← hK]
    exact (hKs.2.1.1 ci K hc).2.1
  · simp [sm_V]
  · show 2 * 0 + _ ≤ 8
    rw [sm_catsum]; omega
  · have h := kk r n' sh' I' hq Γ p l e s m args below meth c Z H1 locs1 ls C ⟨hS1, hH1, D.2.2⟩
    cases r <;> exact h
theorem x_callS {idx d mc ms : Nat} {μ' : sm_Mu} {as stk : List Value} {Q' : sm_Qt} (hd : decode μ.2.1 pc = .ok (.invokestatic idx, 3)) (hE : Em d mc ms μ' as n sh I Q') (hstk : stk = as.reverse ++ st) (hm : sm_Me μ' as.length) (hstt : Cond.static μ'.1 ∈ lw_good) (hl : Cond.methodLink μ.1.cls idx μ'.1 ∈ lw_good)
    (hroom : d + 1 ≤ R.frames ∧ 8 + (μ'.2.2.1 + 11) + 40 * d ≤ R.locals) (hcs : cl + mc ≤ R.cells ∧ sl + ms ≤ R.slots) (hst : (st.map fun v => v.category).sum ≤ 8)
    (kk : ∀ r n' sh' I', Q' r n' sh' I' → Xm ζ R μ (pc + 3) lv (r.toList ++ st) (cl + mc) (sl + ms) n' sh' I' Q) : Xm ζ R μ pc lv stk cl sl n sh I Q := by
  intro Γ p l e s m args below meth c Z H locs ls C D
  subst hstk
  have hKs := C.2.2.2.2.2.2.1
  have hts := C.2.2.2.2.1
  refine sm_call (rest := st.map (sm_V Γ.2.1)) (va_runS (As := as.map (sm_V Γ.2.1)) (rest := st.map (sm_V Γ.2.1)) ⟨C.1, C.2.1, C.2.2.1, C.2.2.2.1, hts⟩ (hE ζ l Γ) ⟨sm_CB hts hm hl hroom, hts _ hstt⟩ ⟨sm_Pc.blind, fun U hU hW => ⟨rfl, by rw [hU]; exact D.2.1, hKs.pass hW (by rw [hU]; exact D.1)⟩⟩ rfl (List.length_map ..) D.2.2.1 ?_ ?_ hd hcs) D.1 (fun r n' sh' I' H1 locs1 hq hH1 hS1 => ?_)
  · simp [sm_V]
  · show 2 * 0 + _ ≤ 8
    rw [sm_catsum]; omega
  · have h := kk r n' sh' I' hq Γ p l e s m args below meth c Z H1 locs1 ls C ⟨hS1, hH1, D.2.2⟩
    cases r <;> exact h
theorem x_callI {idx d mc ms a : Nat} {μ' : sm_Mu} {as stk : List Value} {Q' : sm_Qt} (hd : decode μ.2.1 pc = .ok (.invokespecial idx, 3)) (hE : Em d mc ms μ' (.ref a :: as) n sh I Q') (hstk : stk = as.reverse ++ .ref a :: st) (hret : μ'.2.2.2 = none) (hnm : μ'.1.name = "<init>") (hm : sm_Me μ' as.length) (hin : Cond.instanceMethod μ'.1 ∈ lw_good) (hl : Cond.methodLink μ.1.cls idx μ'.1 ∈ lw_good)
    (hroom : d + 1 ≤ R.frames ∧ 8 + (μ'.2.2.1 + 11) + 40 * d ≤ R.locals) (hcs : cl + mc ≤ R.cells ∧ sl + ms ≤ R.slots) (hst : (st.map fun v => v.category).sum ≤ 8)
    (kk : ∀ r n' sh' I', Q' r n' sh' I' → Xm ζ R μ (pc + 3) lv (r.toList ++ st) (cl + mc) (sl + ms) n' sh' I' Q) : Xm ζ R μ pc lv stk cl sl n sh I Q := by
  intro Γ p l e s m args below meth c Z H locs ls C D
  subst hstk
  have hKs := C.2.2.2.2.2.2.1
  have hts := C.2.2.2.2.1
  have hCB := sm_CB (R := R) (mc := mc) (ms := ms) hts hm hl hroom
  rw [hret] at hCB
  refine sm_call (rest := st.map (sm_V Γ.2.1)) (va_runI (As := as.map (sm_V Γ.2.1)) (rest := st.map (sm_V Γ.2.1)) (b := Γ.2.1 a) ⟨C.1, C.2.1, C.2.2.1, C.2.2.2.1, hts⟩ (hE ζ l Γ) ⟨hCB, hnm, hts _ hin⟩ ⟨sm_Pc.blind, fun U hU hW => ⟨rfl, by rw [hU]; exact D.2.1, hKs.pass hW (by rw [hU]; exact D.1)⟩⟩ rfl (List.length_map ..) D.2.2.1 ?_ ?_ hd hcs) D.1 (fun r n' sh' I' H1 locs1 hq hH1 hS1 => ?_)
  · simp [sm_V]
  · show 2 * 0 + _ ≤ 8
    rw [sm_catsum]; omega
  · have h := kk r n' sh' I' hq Γ p l e s m args below meth c Z H1 locs1 ls C ⟨hS1, hH1, D.2.2⟩
    cases r <;> exact h
/-- a nest mate's private constructor -/
theorem x_callIN {idx d mc ms a : Nat} {host : String} {μ' : sm_Mu} {as stk : List Value} {Q' : sm_Qt} (hd : decode μ.2.1 pc = .ok (.invokespecial idx, 3)) (hE : Em d mc ms μ' (.ref a :: as) n sh I Q') (hstk : stk = as.reverse ++ .ref a :: st) (hret : μ'.2.2.2 = none) (hnm : μ'.1.name = "<init>") (hm : sm_Me μ' as.length) (hin : Cond.instanceMethod μ'.1 ∈ lw_good) (hl : ∀ U : State, sm_N U → va_Nw (.methodLinkNest μ.1.cls idx μ'.1 host) U)
    (hroom : d + 1 ≤ R.frames ∧ 8 + (μ'.2.2.1 + 11) + 40 * d ≤ R.locals) (hcs : cl + mc ≤ R.cells ∧ sl + ms ≤ R.slots) (hst : (st.map fun v => v.category).sum ≤ 8)
    (kk : ∀ r n' sh' I', Q' r n' sh' I' → Xm ζ R μ (pc + 3) lv (r.toList ++ st) (cl + mc) (sl + ms) n' sh' I' Q) : Xm ζ R μ pc lv stk cl sl n sh I Q := by
  intro Γ p l e s m args below meth c Z H locs ls C D
  subst hstk
  have hKs := C.2.2.2.2.2.2.1
  have hts := C.2.2.2.2.1
  have hCN : va_CN R s args μ.1.cls idx μ'.1 host μ'.2.1 μ'.2.2.1 none (sm_ws μ') (sm_rm d mc ms) mc ms as.length := by
    obtain ⟨h1, h2, h3, h4⟩ := hm
    rw [← hret]
    refine ⟨⟨rfl, rfl, hroom.1, hroom.2, sm_good_pay hts h1, List.mem_cons_self⟩, hts _ h1, hts _ h2, h3, fun sig h => ?_, va_Nw.use rfl (hl s hKs.2.2.1)⟩
    rw [h] at h4
    exact (Option.some.inj h4).symm
  refine sm_call (rest := st.map (sm_V Γ.2.1)) (va_runIN (As := as.map (sm_V Γ.2.1)) (rest := st.map (sm_V Γ.2.1)) (b := Γ.2.1 a) ⟨C.1, C.2.1, C.2.2.1, C.2.2.2.1, hts⟩ (hE ζ l Γ) ⟨hCN, hnm, hts _ hin⟩ ⟨sm_Pc.blind, fun U hU hW => ⟨rfl, by rw [hU]; exact D.2.1, hKs.pass hW (by rw [hU]; exact D.1)⟩⟩ rfl (List.length_map ..) D.2.2.1 ?_ ?_ hd hcs) D.1 (fun r n' sh' I' H1 locs1 hq hH1 hS1 => ?_)
  · simp [sm_V]
  · show 2 * 0 + _ ≤ 8
    rw [sm_catsum]; omega
  · have h := kk r n' sh' I' hq Γ p l e s m args below meth c Z H1 locs1 ls C ⟨hS1, hH1, D.2.2⟩
    cases r <;> exact h
/-! ===== the law's script ===== -/
theorem x_sld {i : Int32} (hd : decode μ.2.1 pc = .ok (.iaload, 1)) (hin : vp_in i ζ.1) (kk : Xm ζ R μ (pc + 1) lv (.int (ζ.2 i.toNatClampNeg) :: st) cl sl n sh I Q) : Xm ζ R μ pc lv (.int i :: .ref 1000000 :: st) cl sl n sh I Q := by
  intro Γ p l e s m args below meth c Z H locs ls C D
  obtain ⟨-, -, -, ⟨-, -, -, -, -, h6, h7⟩, h5⟩ := C.2.2.2.2.2.2.1
  exact va_sld C.1 C.2.1 h6 (Nat.lt_of_lt_of_le h7 h5) (Nat.not_le.mpr h7) D.1 hin hd (kk Γ p l e s m args below meth c Z H locs ls C D)
theorem x_slen (hd : decode μ.2.1 pc = .ok (.arraylength, 1)) (kk : Xm ζ R μ (pc + 1) lv (.int (Int32.ofNat ζ.1) :: st) cl sl n sh I Q) : Xm ζ R μ pc lv (.ref 1000000 :: st) cl sl n sh I Q := by
  intro Γ p l e s m args below meth c Z H locs ls C D
  obtain ⟨-, -, -, ⟨-, -, -, -, -, h6, h7⟩, h5⟩ := C.2.2.2.2.2.2.1
  exact va_slen C.1 C.2.1 h6 (Nat.lt_of_lt_of_le h7 h5) (Nat.not_le.mpr h7) D.1 hd (kk Γ p l e s m args below meth c Z H locs ls C D)
/-- a weaker end -/
theorem Xm.mono {Q' : sm_Qt} (h : ∀ r n sh I, Q' r n sh I → Q r n sh I) (k : Xm ζ R μ pc lv st cl sl n sh I Q') : Xm ζ R μ pc lv st cl sl n sh I Q := by
  intro Γ p l e s m args below meth c Z H locs ls C D
  obtain ⟨c1, c2, c3, c4, c5, c6, c7, c8⟩ := C
  exact k Γ p l e s m args below meth c Z H locs ls ⟨c1, c2, c3, c4, c5, c6, c7, fun r n sh I H locs cl sl pc ls z1 z2 z3 => c8 r n sh I H locs cl sl pc ls z1 z2 (h r n sh I z3)⟩ D
end SMX
/-! ===== a contract out of a walk ===== -/
theorem sm_L_entry {ad : Nat → Nat} {as : List Value} {nL : Nat} (hcat : ∀ v ∈ as, v.category = 1) (hlen : as.length ≤ nL) : sm_L ad ((((as.map (sm_V ad)).map Slot.val) ++ List.replicate (nL - (as.map (sm_V ad)).length) Slot.unset).toArray) nL (as.map some ++ List.replicate (nL - as.length) none) := by
  have hget : ∀ (i : Nat) (z : Slot), ((((as.map (sm_V ad)).map Slot.val) ++ List.replicate (nL - (as.map (sm_V ad)).length) Slot.unset).toArray)[i]? = some z → z = .unset ∨ ∃ v, as[i]? = some v ∧ z = .val (sm_V ad v) := by
    intro i z h
    rw [List.getElem?_toArray] at h
    by_cases hi : i < as.length
    · rw [List.getElem?_append_left (by simp [hi]), List.getElem?_map, List.getElem?_map] at h
      cases hv : as[i]? with
      | none => rw [hv] at h; cases h
      | some v => rw [hv] at h; cases h; exact Or.inr ⟨v, rfl, rfl⟩
    · rw [List.getElem?_append_right (by simp; omega), List.getElem?_replicate] at h
      split at h
      · cases h; exact Or.inl rfl
      · cases h
  refine ⟨by simp; omega, ⟨fun i v h h2 => ?_, fun i h => ?_⟩, fun i v h => ?_⟩
  · rcases hget i _ h with h3 | ⟨w, h3, h4⟩
    · cases h3
    · cases h4
      rw [sm_V_cat, hcat w (List.mem_of_getElem? h3)] at h2
      cases h2
  · rcases hget i _ h with h3 | ⟨w, h3, h4⟩
    · cases h3
    · cases h4
  · by_cases hi : i < as.length
    · rw [List.getElem?_append_left (by simp [hi]), List.getElem?_map] at h
      cases hv : as[i]? with
      | none => rw [hv] at h; cases h
      | some w =>
        rw [hv] at h
        cases h
        refine ⟨hcat _ (List.mem_of_getElem? hv), ?_⟩
        rw [List.getElem?_toArray, List.getElem?_append_left (by simp [hi]), List.getElem?_map, List.getElem?_map, hv]
        rfl
    · rw [List.getElem?_append_right (by simp; omega), List.getElem?_replicate] at h
      split at h <;> cases h
theorem Em.of {d mc ms : Nat} {μ : sm_Mu} {as : List Value} {n : Nat} {sh : Nat → sm_S} {I : sm_I} {Q : sm_Qt} (hy : plainName μ.1.cls = true) (hcat : ∀ v ∈ as, v.category = 1) (hlen : as.length ≤ μ.2.2.1) (hb : ∀ ζ, Xm ζ (sm_rm d mc ms) μ 0 (as.map some ++ List.replicate (μ.2.2.1 - as.length) none) [] 0 0 n sh I Q) : Em d mc ms μ as n sh I Q := by
  intro ζ l Γ
  refine Met.ofW (cc := μ.2.1) (maxL := μ.2.2.1) (ret := μ.2.2.2) hy rfl ?_
  intro p e s m args below meth c s₁ B hml hv
  obtain ⟨rfl, hH, hK⟩ := hv
  have hts := atoms_spec (ws := sm_ws μ) B.pre
  have hown : s.vm.findClass μ.1.cls = some m.cls := findClass_of_methodNamed B.named
  have hr := B.returns
  have hlocks := B.notSynchronized
  rw [entry_eq m (as.map (sm_V Γ.2.1)) (fun v hv => by obtain ⟨w, h1, rfl⟩ := List.mem_map.mp hv; rw [sm_V_cat]; exact hcat w h1) μ.2.2.1]
  refine hb ζ Γ p l e s m _ below meth c _ s.heap [] _ ⟨B.exec, B.bytes, hml, hown, fun w hw => hts w (List.mem_cons_of_mem _ hw), (name_of_methodNamed B.named B.method).1, hK, ?_⟩ ⟨va_S.rf, hH, sm_L_entry hcat hlen⟩
  intro r n' sh' I' H locs cl sl pc ls hc hs hq hH' hS hR
  refine W.widen (k := mc) (n := ms) hc hs ?_
  cases r with
  | none => exact W.vret B.exec B.bytes (hr.trans hR.1) (fun t ht hW => ⟨⟨none, n', sh', I', rfl, hq, by rw [ht]; exact hH'⟩, hS.F ht⟩) hS.2.2 hR.2 hlocks
  | some v =>
    cases v with
    | int x =>
      obtain ⟨⟨ty, h1, h2⟩, h3⟩ := hR
      exact W.zret B.exec B.bytes (hr.trans h1) h2 (fun t ht hW => ⟨⟨some (.int x), n', sh', I', rfl, hq, by rw [ht]; exact hH'⟩, hS.F ht⟩) hS.2.2 h3 hlocks
    | float x => exact W.fret B.exec B.bytes (hr.trans hR.1) (fun t ht hW => ⟨⟨some (.float x), n', sh', I', rfl, hq, by rw [ht]; exact hH'⟩, hS.F ht⟩) hS.2.2 hR.2 hlocks
    | ref x =>
      obtain ⟨⟨t, h1⟩, h3⟩ := hR
      exact W.aret B.exec B.bytes (hr.trans h1) (Or.inl ⟨t, rfl⟩) (Or.inr ⟨_, rfl⟩) (fun t ht hW => ⟨⟨some (.ref x), n', sh', I', rfl, hq, by rw [ht]; exact hH'⟩, hS.F ht⟩) hS.2.2 h3 hlocks
    | _ => exact hR.elim
end
section
theorem clX0 : sm_Cl 0 RX0 TX0 6 tyX0 := ⟨rfl, rfl, (by decide +kernel), tyX0_ok, nmX0⟩
theorem clX1 : sm_Cl 1 RX1 TX1 2 tyX1 := ⟨rfl, rfl, (by decide +kernel), tyX1_ok, nmX1⟩
theorem clX2 : sm_Cl 2 RX2 TX2 6 tyX2 := ⟨rfl, rfl, (by decide +kernel), tyX2_ok, nmX2⟩
theorem clX3 : sm_Cl 3 RX3 TX3 3 tyX3 := ⟨rfl, rfl, (by decide +kernel), tyX3_ok, nmX3⟩
theorem clX4 : sm_Cl 4 RX4 TX4 4 tyX4 := ⟨rfl, rfl, (by decide +kernel), tyX4_ok, nmX4⟩
theorem clX5 : sm_Cl 5 RX5 TX5 5 tyX5 := ⟨rfl, rfl, (by decide +kernel), tyX5_ok, nmX5⟩
theorem clX6 : sm_Cl 6 RX6 TX6 3 tyX6 := ⟨rfl, rfl, (by decide +kernel), tyX6_ok, nmX6⟩
theorem clX7 : sm_Cl 7 RX7 TX7 5 tyX7 := ⟨rfl, rfl, (by decide +kernel), tyX7_ok, nmX7⟩
theorem clX8 : sm_Cl 8 RX8 TX8 11 tyX8 := ⟨rfl, rfl, (by decide +kernel), tyX8_ok, nmX8⟩
theorem clX9 : sm_Cl 9 RX9 TX9 21 tyX9 := ⟨rfl, rfl, (by decide +kernel), tyX9_ok, nmX9⟩
abbrev mX8_init : sm_Mu := (yX8_init, cX8_init, 2, none)
theorem meX8_init : sm_Me mX8_init 0 := ⟨lw_good_in (List.mem_append_right _ (List.mem_of_getElem? (i := 21) (by decide +kernel))) (by decide +kernel), lw_good_in (List.mem_append_right _ (List.mem_of_getElem? (i := 1) (by decide +kernel))) (by decide +kernel), by decide +kernel, by decide +kernel⟩
abbrev mX7_init : sm_Mu := (yX7_init, cX7_init, 1, none)
theorem meX7_init : sm_Me mX7_init 0 := ⟨lw_good_in (List.mem_append_right _ (List.mem_of_getElem? (i := 29) (by decide +kernel))) (by decide +kernel), lw_good_in (List.mem_append_right _ (List.mem_of_getElem? (i := 2) (by decide +kernel))) (by decide +kernel), by decide +kernel, by decide +kernel⟩
abbrev mX4_init : sm_Mu := (yX4_init, cX4_init, 2, none)
theorem meX4_init : sm_Me mX4_init 1 := ⟨lw_good_in (List.mem_append_right _ (List.mem_of_getElem? (i := 56) (by decide +kernel))) (by decide +kernel), lw_good_in (List.mem_append_right _ (List.mem_of_getElem? (i := 3) (by decide +kernel))) (by decide +kernel), by decide +kernel, by decide +kernel⟩
abbrev mX1_init : sm_Mu := (yX1_init, cX1_init, 2, none)
theorem meX1_init : sm_Me mX1_init 0 := ⟨lw_good_in (List.mem_append_right _ (List.mem_of_getElem? (i := 62) (by decide +kernel))) (by decide +kernel), lw_good_in (List.mem_append_right _ (List.mem_of_getElem? (i := 4) (by decide +kernel))) (by decide +kernel), by decide +kernel, by decide +kernel⟩
abbrev mX0_init : sm_Mu := (yX0_init, cX0_init, 1, none)
theorem meX0_init : sm_Me mX0_init 0 := ⟨lw_good_in (List.mem_append_right _ (List.mem_of_getElem? (i := 69) (by decide +kernel))) (by decide +kernel), lw_good_in (List.mem_append_right _ (List.mem_of_getElem? (i := 5) (by decide +kernel))) (by decide +kernel), by decide +kernel, by decide +kernel⟩
abbrev mX3_init : sm_Mu := (yX3_init, cX3_init, 2, none)
theorem meX3_init : sm_Me mX3_init 0 := ⟨lw_good_in (List.mem_append_right _ (List.mem_of_getElem? (i := 134) (by decide +kernel))) (by decide +kernel), lw_good_in (List.mem_append_right _ (List.mem_of_getElem? (i := 6) (by decide +kernel))) (by decide +kernel), by decide +kernel, by decide +kernel⟩
abbrev mX6_init : sm_Mu := (yX6_init, cX6_init, 1, none)
theorem meX6_init : sm_Me mX6_init 0 := ⟨lw_good_in (List.mem_append_right _ (List.mem_of_getElem? (i := 154) (by decide +kernel))) (by decide +kernel), lw_good_in (List.mem_append_right _ (List.mem_of_getElem? (i := 7) (by decide +kernel))) (by decide +kernel), by decide +kernel, by decide +kernel⟩
abbrev mX2_init : sm_Mu := (yX2_init, cX2_init, 2, none)
theorem meX2_init : sm_Me mX2_init 1 := ⟨lw_good_in (List.mem_append_right _ (List.mem_of_getElem? (i := 173) (by decide +kernel))) (by decide +kernel), lw_good_in (List.mem_append_right _ (List.mem_of_getElem? (i := 8) (by decide +kernel))) (by decide +kernel), by decide +kernel, by decide +kernel⟩
abbrev mX5_init : sm_Mu := (yX5_init, cX5_init, 1, none)
theorem meX5_init : sm_Me mX5_init 0 := ⟨lw_good_in (List.mem_append_right _ (List.mem_of_getElem? (i := 198) (by decide +kernel))) (by decide +kernel), lw_good_in (List.mem_append_right _ (List.mem_of_getElem? (i := 9) (by decide +kernel))) (by decide +kernel), by decide +kernel, by decide +kernel⟩
abbrev mX8_type : sm_Mu := (yX8_type, cX8_type, 2, (some .int))
theorem meX8_type : sm_Me mX8_type 1 := ⟨lw_good_in (List.mem_append_right _ (List.mem_of_getElem? (i := 258) (by decide +kernel))) (by decide +kernel), lw_good_in (List.mem_append_right _ (List.mem_of_getElem? (i := 1) (by decide +kernel))) (by decide +kernel), by decide +kernel, by decide +kernel⟩
abbrev mX7_add : sm_Mu := (yX7_add, cX7_add, 2, (some .boolean))
theorem meX7_add : sm_Me mX7_add 1 := ⟨lw_good_in (List.mem_append_right _ (List.mem_of_getElem? (i := 262) (by decide +kernel))) (by decide +kernel), lw_good_in (List.mem_append_right _ (List.mem_of_getElem? (i := 2) (by decide +kernel))) (by decide +kernel), by decide +kernel, by decide +kernel⟩
abbrev mX8_clear : sm_Mu := (yX8_clear, cX8_clear, 2, (some .int))
theorem meX8_clear : sm_Me mX8_clear 0 := ⟨lw_good_in (List.mem_append_right _ (List.mem_of_getElem? (i := 266) (by decide +kernel))) (by decide +kernel), lw_good_in (List.mem_append_right _ (List.mem_of_getElem? (i := 1) (by decide +kernel))) (by decide +kernel), by decide +kernel, by decide +kernel⟩
abbrev mX8_tells : sm_Mu := (yX8_tells, cX8_tells, 1, (some .int))
theorem meX8_tells : sm_Me mX8_tells 0 := ⟨lw_good_in (List.mem_append_right _ (List.mem_of_getElem? (i := 270) (by decide +kernel))) (by decide +kernel), lw_good_in (List.mem_append_right _ (List.mem_of_getElem? (i := 1) (by decide +kernel))) (by decide +kernel), by decide +kernel, by decide +kernel⟩
abbrev mX4_readAll : sm_Mu := (yX4_readAll, cX4_readAll, 1, (some .boolean))
theorem meX4_readAll : sm_Me mX4_readAll 0 := ⟨lw_good_in (List.mem_append_right _ (List.mem_of_getElem? (i := 274) (by decide +kernel))) (by decide +kernel), lw_good_in (List.mem_append_right _ (List.mem_of_getElem? (i := 3) (by decide +kernel))) (by decide +kernel), by decide +kernel, by decide +kernel⟩
abbrev mX7_split : sm_Mu := (yX7_split, cX7_split, 3, none)
theorem meX7_split : sm_Me mX7_split 0 := ⟨lw_good_in (List.mem_append_right _ (List.mem_of_getElem? (i := 278) (by decide +kernel))) (by decide +kernel), lw_good_in (List.mem_append_right _ (List.mem_of_getElem? (i := 2) (by decide +kernel))) (by decide +kernel), by decide +kernel, by decide +kernel⟩
abbrev mX7_goesOn : sm_Mu := (yX7_goesOn, cX7_goesOn, 2, (some .boolean))
theorem meX7_goesOn : sm_Me mX7_goesOn 1 := ⟨lw_good_in (List.mem_append_right _ (List.mem_of_getElem? (i := 282) (by decide +kernel))) (by decide +kernel), lw_good_in (List.mem_append_right _ (List.mem_of_getElem? (i := 2) (by decide +kernel))) (by decide +kernel), by decide +kernel, by decide +kernel⟩
abbrev mX7_isSmallLetter : sm_Mu := (yX7_isSmallLetter, cX7_isSmallLetter, 1, (some .boolean))
theorem meX7_isSmallLetter : sm_Me mX7_isSmallLetter 1 := ⟨lw_good_in (List.mem_append_right _ (List.mem_of_getElem? (i := 285) (by decide +kernel))) (by decide +kernel), lw_good_in (List.mem_append_right _ (List.mem_of_getElem? (i := 2) (by decide +kernel))) (by decide +kernel), by decide +kernel, by decide +kernel⟩
abbrev mX7_isFigure : sm_Mu := (yX7_isFigure, cX7_isFigure, 1, (some .boolean))
theorem meX7_isFigure : sm_Me mX7_isFigure 1 := ⟨lw_good_in (List.mem_append_right _ (List.mem_of_getElem? (i := 288) (by decide +kernel))) (by decide +kernel), lw_good_in (List.mem_append_right _ (List.mem_of_getElem? (i := 2) (by decide +kernel))) (by decide +kernel), by decide +kernel, by decide +kernel⟩
abbrev mX7_putKind : sm_Mu := (yX7_putKind, cX7_putKind, 4, none)
theorem meX7_putKind : sm_Me mX7_putKind 2 := ⟨lw_good_in (List.mem_append_right _ (List.mem_of_getElem? (i := 292) (by decide +kernel))) (by decide +kernel), lw_good_in (List.mem_append_right _ (List.mem_of_getElem? (i := 2) (by decide +kernel))) (by decide +kernel), by decide +kernel, by decide +kernel⟩
abbrev mX7_kindOfWord : sm_Mu := (yX7_kindOfWord, cX7_kindOfWord, 3, (some .int))
theorem meX7_kindOfWord : sm_Me mX7_kindOfWord 2 := ⟨lw_good_in (List.mem_append_right _ (List.mem_of_getElem? (i := 296) (by decide +kernel))) (by decide +kernel), lw_good_in (List.mem_append_right _ (List.mem_of_getElem? (i := 2) (by decide +kernel))) (by decide +kernel), by decide +kernel, by decide +kernel⟩
abbrev mX7_isWord : sm_Mu := (yX7_isWord, cX7_isWord, 5, (some .boolean))
theorem meX7_isWord : sm_Me mX7_isWord 3 := ⟨lw_good_in (List.mem_append_right _ (List.mem_of_getElem? (i := 301) (by decide +kernel))) (by decide +kernel), lw_good_in (List.mem_append_right _ (List.mem_of_getElem? (i := 2) (by decide +kernel))) (by decide +kernel), by decide +kernel, by decide +kernel⟩
abbrev mJ0_length_8abf5 : sm_Mu := (yJ0_length_8abf5, cJ0_length_8abf5, 1, (some .int))
theorem meJ0_length_8abf5 : sm_Me mJ0_length_8abf5 0 := ⟨lw_good_in (List.mem_append_right _ (List.mem_of_getElem? (i := 305) (by decide +kernel))) (by decide +kernel), lw_good_in (List.mem_append_right _ (List.mem_of_getElem? (i := 11) (by decide +kernel))) (by decide +kernel), by decide +kernel, by decide +kernel⟩
abbrev mJ0_coder_7d493 : sm_Mu := (yJ0_coder_7d493, cJ0_coder_7d493, 1, (some .byte))
theorem meJ0_coder_7d493 : sm_Me mJ0_coder_7d493 0 := ⟨lw_good_in (List.mem_append_right _ (List.mem_of_getElem? (i := 309) (by decide +kernel))) (by decide +kernel), lw_good_in (List.mem_append_right _ (List.mem_of_getElem? (i := 11) (by decide +kernel))) (by decide +kernel), by decide +kernel, by decide +kernel⟩
abbrev mJ0_charAt_5068e : sm_Mu := (yJ0_charAt_5068e, cJ0_charAt_5068e, 2, (some .char))
theorem meJ0_charAt_5068e : sm_Me mJ0_charAt_5068e 1 := ⟨lw_good_in (List.mem_append_right _ (List.mem_of_getElem? (i := 315) (by decide +kernel))) (by decide +kernel), lw_good_in (List.mem_append_right _ (List.mem_of_getElem? (i := 11) (by decide +kernel))) (by decide +kernel), by decide +kernel, by decide +kernel⟩
abbrev mJ0_isLatin1_aae02 : sm_Mu := (yJ0_isLatin1_aae02, cJ0_isLatin1_aae02, 1, (some .boolean))
theorem meJ0_isLatin1_aae02 : sm_Me mJ0_isLatin1_aae02 0 := ⟨lw_good_in (List.mem_append_right _ (List.mem_of_getElem? (i := 319) (by decide +kernel))) (by decide +kernel), lw_good_in (List.mem_append_right _ (List.mem_of_getElem? (i := 11) (by decide +kernel))) (by decide +kernel), by decide +kernel, by decide +kernel⟩
abbrev mJ1_charAt_3b067 : sm_Mu := (yJ1_charAt_3b067, cJ1_charAt_3b067, 2, (some .char))
theorem meJ1_charAt_3b067 : sm_Me mJ1_charAt_3b067 2 := ⟨lw_good_in (List.mem_append_right _ (List.mem_of_getElem? (i := 322) (by decide +kernel))) (by decide +kernel), lw_good_in (List.mem_append_right _ (List.mem_of_getElem? (i := 12) (by decide +kernel))) (by decide +kernel), by decide +kernel, by decide +kernel⟩
abbrev mJ0_checkIndex_df160 : sm_Mu := (yJ0_checkIndex_df160, cJ0_checkIndex_df160, 2, none)
theorem meJ0_checkIndex_df160 : sm_Me mJ0_checkIndex_df160 2 := ⟨lw_good_in (List.mem_append_right _ (List.mem_of_getElem? (i := 325) (by decide +kernel))) (by decide +kernel), lw_good_in (List.mem_append_right _ (List.mem_of_getElem? (i := 11) (by decide +kernel))) (by decide +kernel), by decide +kernel, by decide +kernel⟩
abbrev mJ3_checkIndex_8e157 : sm_Mu := (yJ3_checkIndex_8e157, cJ3_checkIndex_8e157, 3, (some .int))
theorem meJ3_checkIndex_8e157 : sm_Me mJ3_checkIndex_8e157 3 := ⟨lw_good_in (List.mem_append_right _ (List.mem_of_getElem? (i := 330) (by decide +kernel))) (by decide +kernel), lw_good_in (List.mem_append_right _ (List.mem_of_getElem? (i := 13) (by decide +kernel))) (by decide +kernel), by decide +kernel, by decide +kernel⟩
abbrev mJ2_charAt_3b067 : sm_Mu := (yJ2_charAt_3b067, cJ2_charAt_3b067, 2, (some .char))
theorem meJ2_charAt_3b067 : sm_Me mJ2_charAt_3b067 2 := ⟨lw_good_in (List.mem_append_right _ (List.mem_of_getElem? (i := 333) (by decide +kernel))) (by decide +kernel), lw_good_in (List.mem_append_right _ (List.mem_of_getElem? (i := 14) (by decide +kernel))) (by decide +kernel), by decide +kernel, by decide +kernel⟩
abbrev mJ2_checkIndex_2214a : sm_Mu := (yJ2_checkIndex_2214a, cJ2_checkIndex_2214a, 2, none)
theorem meJ2_checkIndex_2214a : sm_Me mJ2_checkIndex_2214a 2 := ⟨lw_good_in (List.mem_append_right _ (List.mem_of_getElem? (i := 336) (by decide +kernel))) (by decide +kernel), lw_good_in (List.mem_append_right _ (List.mem_of_getElem? (i := 14) (by decide +kernel))) (by decide +kernel), by decide +kernel, by decide +kernel⟩
abbrev mJ2_length_9d52b : sm_Mu := (yJ2_length_9d52b, cJ2_length_9d52b, 1, (some .int))
theorem meJ2_length_9d52b : sm_Me mJ2_length_9d52b 1 := ⟨lw_good_in (List.mem_append_right _ (List.mem_of_getElem? (i := 339) (by decide +kernel))) (by decide +kernel), lw_good_in (List.mem_append_right _ (List.mem_of_getElem? (i := 14) (by decide +kernel))) (by decide +kernel), by decide +kernel, by decide +kernel⟩
abbrev mJ2_getChar_3b067 : sm_Mu := (yJ2_getChar_3b067, cJ2_getChar_3b067, 2, (some .char))
theorem meJ2_getChar_3b067 : sm_Me mJ2_getChar_3b067 2 := ⟨lw_good_in (List.mem_append_right _ (List.mem_of_getElem? (i := 343) (by decide +kernel))) (by decide +kernel), lw_good_in (List.mem_append_right _ (List.mem_of_getElem? (i := 14) (by decide +kernel))) (by decide +kernel), by decide +kernel, by decide +kernel⟩
abbrev mX7_kindOfNumber : sm_Mu := (yX7_kindOfNumber, cX7_kindOfNumber, 4, (some .int))
theorem meX7_kindOfNumber : sm_Me mX7_kindOfNumber 2 := ⟨lw_good_in (List.mem_append_right _ (List.mem_of_getElem? (i := 354) (by decide +kernel))) (by decide +kernel), lw_good_in (List.mem_append_right _ (List.mem_of_getElem? (i := 2) (by decide +kernel))) (by decide +kernel), by decide +kernel, by decide +kernel⟩
abbrev mX7_valueOf : sm_Mu := (yX7_valueOf, cX7_valueOf, 5, (some .int))
theorem meX7_valueOf : sm_Me mX7_valueOf 2 := ⟨lw_good_in (List.mem_append_right _ (List.mem_of_getElem? (i := 358) (by decide +kernel))) (by decide +kernel), lw_good_in (List.mem_append_right _ (List.mem_of_getElem? (i := 2) (by decide +kernel))) (by decide +kernel), by decide +kernel, by decide +kernel⟩
abbrev mX1_empty : sm_Mu := (yX1_empty, cX1_empty, 1, none)
theorem meX1_empty : sm_Me mX1_empty 0 := ⟨lw_good_in (List.mem_append_right _ (List.mem_of_getElem? (i := 362) (by decide +kernel))) (by decide +kernel), lw_good_in (List.mem_append_right _ (List.mem_of_getElem? (i := 4) (by decide +kernel))) (by decide +kernel), by decide +kernel, by decide +kernel⟩
abbrev mX4_readItem : sm_Mu := (yX4_readItem, cX4_readItem, 2, (some .boolean))
theorem meX4_readItem : sm_Me mX4_readItem 0 := ⟨lw_good_in (List.mem_append_right _ (List.mem_of_getElem? (i := 366) (by decide +kernel))) (by decide +kernel), lw_good_in (List.mem_append_right _ (List.mem_of_getElem? (i := 3) (by decide +kernel))) (by decide +kernel), by decide +kernel, by decide +kernel⟩
abbrev mX4_readCask : sm_Mu := (yX4_readCask, cX4_readCask, 4, (some .boolean))
theorem meX4_readCask : sm_Me mX4_readCask 0 := ⟨lw_good_in (List.mem_append_right _ (List.mem_of_getElem? (i := 370) (by decide +kernel))) (by decide +kernel), lw_good_in (List.mem_append_right _ (List.mem_of_getElem? (i := 3) (by decide +kernel))) (by decide +kernel), by decide +kernel, by decide +kernel⟩
abbrev mX4_readNumber : sm_Mu := (yX4_readNumber, cX4_readNumber, 4, (some .boolean))
theorem meX4_readNumber : sm_Me mX4_readNumber 2 := ⟨lw_good_in (List.mem_append_right _ (List.mem_of_getElem? (i := 374) (by decide +kernel))) (by decide +kernel), lw_good_in (List.mem_append_right _ (List.mem_of_getElem? (i := 3) (by decide +kernel))) (by decide +kernel), by decide +kernel, by decide +kernel⟩
abbrev mX4_step : sm_Mu := (yX4_step, cX4_step, 1, none)
theorem meX4_step : sm_Me mX4_step 0 := ⟨lw_good_in (List.mem_append_right _ (List.mem_of_getElem? (i := 378) (by decide +kernel))) (by decide +kernel), lw_good_in (List.mem_append_right _ (List.mem_of_getElem? (i := 3) (by decide +kernel))) (by decide +kernel), by decide +kernel, by decide +kernel⟩
abbrev mX4_readItemEnd : sm_Mu := (yX4_readItemEnd, cX4_readItemEnd, 1, (some .boolean))
theorem meX4_readItemEnd : sm_Me mX4_readItemEnd 0 := ⟨lw_good_in (List.mem_append_right _ (List.mem_of_getElem? (i := 382) (by decide +kernel))) (by decide +kernel), lw_good_in (List.mem_append_right _ (List.mem_of_getElem? (i := 3) (by decide +kernel))) (by decide +kernel), by decide +kernel, by decide +kernel⟩
abbrev mX1_add : sm_Mu := (yX1_add, cX1_add, 4, (some .boolean))
theorem meX1_add : sm_Me mX1_add 3 := ⟨lw_good_in (List.mem_append_right _ (List.mem_of_getElem? (i := 386) (by decide +kernel))) (by decide +kernel), lw_good_in (List.mem_append_right _ (List.mem_of_getElem? (i := 4) (by decide +kernel))) (by decide +kernel), by decide +kernel, by decide +kernel⟩
abbrev mX0_becomeNew : sm_Mu := (yX0_becomeNew, cX0_becomeNew, 4, none)
theorem meX0_becomeNew : sm_Me mX0_becomeNew 3 := ⟨lw_good_in (List.mem_append_right _ (List.mem_of_getElem? (i := 390) (by decide +kernel))) (by decide +kernel), lw_good_in (List.mem_append_right _ (List.mem_of_getElem? (i := 5) (by decide +kernel))) (by decide +kernel), by decide +kernel, by decide +kernel⟩
abbrev mX4_readStands : sm_Mu := (yX4_readStands, cX4_readStands, 2, (some .boolean))
theorem meX4_readStands : sm_Me mX4_readStands 0 := ⟨lw_good_in (List.mem_append_right _ (List.mem_of_getElem? (i := 394) (by decide +kernel))) (by decide +kernel), lw_good_in (List.mem_append_right _ (List.mem_of_getElem? (i := 3) (by decide +kernel))) (by decide +kernel), by decide +kernel, by decide +kernel⟩
abbrev mX1_has : sm_Mu := (yX1_has, cX1_has, 2, (some .boolean))
theorem meX1_has : sm_Me mX1_has 1 := ⟨lw_good_in (List.mem_append_right _ (List.mem_of_getElem? (i := 398) (by decide +kernel))) (by decide +kernel), lw_good_in (List.mem_append_right _ (List.mem_of_getElem? (i := 4) (by decide +kernel))) (by decide +kernel), by decide +kernel, by decide +kernel⟩
abbrev mX4_faultPlace : sm_Mu := (yX4_faultPlace, cX4_faultPlace, 1, (some .int))
theorem meX4_faultPlace : sm_Me mX4_faultPlace 0 := ⟨lw_good_in (List.mem_append_right _ (List.mem_of_getElem? (i := 402) (by decide +kernel))) (by decide +kernel), lw_good_in (List.mem_append_right _ (List.mem_of_getElem? (i := 3) (by decide +kernel))) (by decide +kernel), by decide +kernel, by decide +kernel⟩
abbrev mX3_remember : sm_Mu := (yX3_remember, cX3_remember, 2, none)
theorem meX3_remember : sm_Me mX3_remember 1 := ⟨lw_good_in (List.mem_append_right _ (List.mem_of_getElem? (i := 406) (by decide +kernel))) (by decide +kernel), lw_good_in (List.mem_append_right _ (List.mem_of_getElem? (i := 6) (by decide +kernel))) (by decide +kernel), by decide +kernel, by decide +kernel⟩
abbrev mX1_copyFrom : sm_Mu := (yX1_copyFrom, cX1_copyFrom, 3, none)
theorem meX1_copyFrom : sm_Me mX1_copyFrom 1 := ⟨lw_good_in (List.mem_append_right _ (List.mem_of_getElem? (i := 410) (by decide +kernel))) (by decide +kernel), lw_good_in (List.mem_append_right _ (List.mem_of_getElem? (i := 4) (by decide +kernel))) (by decide +kernel), by decide +kernel, by decide +kernel⟩
abbrev mX0_copyFrom : sm_Mu := (yX0_copyFrom, cX0_copyFrom, 2, none)
theorem meX0_copyFrom : sm_Me mX0_copyFrom 1 := ⟨lw_good_in (List.mem_append_right _ (List.mem_of_getElem? (i := 414) (by decide +kernel))) (by decide +kernel), lw_good_in (List.mem_append_right _ (List.mem_of_getElem? (i := 5) (by decide +kernel))) (by decide +kernel), by decide +kernel, by decide +kernel⟩
abbrev mJ9_min_7cf53 : sm_Mu := (yJ9_min_7cf53, cJ9_min_7cf53, 2, (some .int))
theorem meJ9_min_7cf53 : sm_Me mJ9_min_7cf53 2 := ⟨lw_good_in (List.mem_append_right _ (List.mem_of_getElem? (i := 417) (by decide +kernel))) (by decide +kernel), lw_good_in (List.mem_append_right _ (List.mem_of_getElem? (i := 15) (by decide +kernel))) (by decide +kernel), by decide +kernel, by decide +kernel⟩
abbrev mX8_fills : sm_Mu := (yX8_fills, cX8_fills, 4, (some .int))
theorem meX8_fills : sm_Me mX8_fills 3 := ⟨lw_good_in (List.mem_append_right _ (List.mem_of_getElem? (i := 423) (by decide +kernel))) (by decide +kernel), lw_good_in (List.mem_append_right _ (List.mem_of_getElem? (i := 1) (by decide +kernel))) (by decide +kernel), by decide +kernel, by decide +kernel⟩
abbrev mX8_roomIn : sm_Mu := (yX8_roomIn, cX8_roomIn, 2, (some .int))
theorem meX8_roomIn : sm_Me mX8_roomIn 1 := ⟨lw_good_in (List.mem_append_right _ (List.mem_of_getElem? (i := 428) (by decide +kernel))) (by decide +kernel), lw_good_in (List.mem_append_right _ (List.mem_of_getElem? (i := 1) (by decide +kernel))) (by decide +kernel), by decide +kernel, by decide +kernel⟩
abbrev mX8_levelsOf : sm_Mu := (yX8_levelsOf, cX8_levelsOf, 2, (some (.object "CaskGauge$Levels")))
theorem meX8_levelsOf : sm_Me mX8_levelsOf 1 := ⟨lw_good_in (List.mem_append_right _ (List.mem_of_getElem? (i := 432) (by decide +kernel))) (by decide +kernel), lw_good_in (List.mem_append_right _ (List.mem_of_getElem? (i := 1) (by decide +kernel))) (by decide +kernel), by decide +kernel, by decide +kernel⟩
abbrev mX8_lyingLevelsOf : sm_Mu := (yX8_lyingLevelsOf, cX8_lyingLevelsOf, 2, (some (.object "CaskGauge$Levels")))
theorem meX8_lyingLevelsOf : sm_Me mX8_lyingLevelsOf 1 := ⟨lw_good_in (List.mem_append_right _ (List.mem_of_getElem? (i := 436) (by decide +kernel))) (by decide +kernel), lw_good_in (List.mem_append_right _ (List.mem_of_getElem? (i := 1) (by decide +kernel))) (by decide +kernel), by decide +kernel, by decide +kernel⟩
abbrev mX2_measure : sm_Mu := (yX2_measure, cX2_measure, 5, none)
theorem meX2_measure : sm_Me mX2_measure 1 := ⟨lw_good_in (List.mem_append_right _ (List.mem_of_getElem? (i := 440) (by decide +kernel))) (by decide +kernel), lw_good_in (List.mem_append_right _ (List.mem_of_getElem? (i := 8) (by decide +kernel))) (by decide +kernel), by decide +kernel, by decide +kernel⟩
abbrev mX0_radiusOf : sm_Mu := (yX0_radiusOf, cX0_radiusOf, 4, (some .int))
theorem meX0_radiusOf : sm_Me mX0_radiusOf 1 := ⟨lw_good_in (List.mem_append_right _ (List.mem_of_getElem? (i := 445) (by decide +kernel))) (by decide +kernel), lw_good_in (List.mem_append_right _ (List.mem_of_getElem? (i := 5) (by decide +kernel))) (by decide +kernel), by decide +kernel, by decide +kernel⟩
abbrev mX0_cellsOf : sm_Mu := (yX0_cellsOf, cX0_cellsOf, 6, (some .int))
theorem meX0_cellsOf : sm_Me mX0_cellsOf 2 := ⟨lw_good_in (List.mem_append_right _ (List.mem_of_getElem? (i := 449) (by decide +kernel))) (by decide +kernel), lw_good_in (List.mem_append_right _ (List.mem_of_getElem? (i := 5) (by decide +kernel))) (by decide +kernel), by decide +kernel, by decide +kernel⟩
abbrev mX2_addAhead : sm_Mu := (yX2_addAhead, cX2_addAhead, 3, none)
theorem meX2_addAhead : sm_Me mX2_addAhead 2 := ⟨lw_good_in (List.mem_append_right _ (List.mem_of_getElem? (i := 453) (by decide +kernel))) (by decide +kernel), lw_good_in (List.mem_append_right _ (List.mem_of_getElem? (i := 8) (by decide +kernel))) (by decide +kernel), by decide +kernel, by decide +kernel⟩
abbrev mX2_reach : sm_Mu := (yX2_reach, cX2_reach, 2, (some .boolean))
theorem meX2_reach : sm_Me mX2_reach 1 := ⟨lw_good_in (List.mem_append_right _ (List.mem_of_getElem? (i := 457) (by decide +kernel))) (by decide +kernel), lw_good_in (List.mem_append_right _ (List.mem_of_getElem? (i := 8) (by decide +kernel))) (by decide +kernel), by decide +kernel, by decide +kernel⟩
abbrev mX2_hold : sm_Mu := (yX2_hold, cX2_hold, 1, (some .int))
theorem meX2_hold : sm_Me mX2_hold 0 := ⟨lw_good_in (List.mem_append_right _ (List.mem_of_getElem? (i := 461) (by decide +kernel))) (by decide +kernel), lw_good_in (List.mem_append_right _ (List.mem_of_getElem? (i := 8) (by decide +kernel))) (by decide +kernel), by decide +kernel, by decide +kernel⟩
abbrev mX2_amountAt : sm_Mu := (yX2_amountAt, cX2_amountAt, 2, (some .int))
theorem meX2_amountAt : sm_Me mX2_amountAt 1 := ⟨lw_good_in (List.mem_append_right _ (List.mem_of_getElem? (i := 465) (by decide +kernel))) (by decide +kernel), lw_good_in (List.mem_append_right _ (List.mem_of_getElem? (i := 8) (by decide +kernel))) (by decide +kernel), by decide +kernel, by decide +kernel⟩
abbrev mX0_takeIn : sm_Mu := (yX0_takeIn, cX0_takeIn, 3, none)
theorem meX0_takeIn : sm_Me mX0_takeIn 2 := ⟨lw_good_in (List.mem_append_right _ (List.mem_of_getElem? (i := 469) (by decide +kernel))) (by decide +kernel), lw_good_in (List.mem_append_right _ (List.mem_of_getElem? (i := 5) (by decide +kernel))) (by decide +kernel), by decide +kernel, by decide +kernel⟩
abbrev mX8_draws : sm_Mu := (yX8_draws, cX8_draws, 3, (some .int))
theorem meX8_draws : sm_Me mX8_draws 2 := ⟨lw_good_in (List.mem_append_right _ (List.mem_of_getElem? (i := 473) (by decide +kernel))) (by decide +kernel), lw_good_in (List.mem_append_right _ (List.mem_of_getElem? (i := 1) (by decide +kernel))) (by decide +kernel), by decide +kernel, by decide +kernel⟩
abbrev mX0_giveOut : sm_Mu := (yX0_giveOut, cX0_giveOut, 3, (some .int))
theorem meX0_giveOut : sm_Me mX0_giveOut 1 := ⟨lw_good_in (List.mem_append_right _ (List.mem_of_getElem? (i := 477) (by decide +kernel))) (by decide +kernel), lw_good_in (List.mem_append_right _ (List.mem_of_getElem? (i := 5) (by decide +kernel))) (by decide +kernel), by decide +kernel, by decide +kernel⟩
abbrev mX8_pours : sm_Mu := (yX8_pours, cX8_pours, 5, (some .int))
theorem meX8_pours : sm_Me mX8_pours 3 := ⟨lw_good_in (List.mem_append_right _ (List.mem_of_getElem? (i := 481) (by decide +kernel))) (by decide +kernel), lw_good_in (List.mem_append_right _ (List.mem_of_getElem? (i := 1) (by decide +kernel))) (by decide +kernel), by decide +kernel, by decide +kernel⟩
abbrev mX8_turnsOver : sm_Mu := (yX8_turnsOver, cX8_turnsOver, 2, (some .int))
theorem meX8_turnsOver : sm_Me mX8_turnsOver 1 := ⟨lw_good_in (List.mem_append_right _ (List.mem_of_getElem? (i := 485) (by decide +kernel))) (by decide +kernel), lw_good_in (List.mem_append_right _ (List.mem_of_getElem? (i := 1) (by decide +kernel))) (by decide +kernel), by decide +kernel, by decide +kernel⟩
abbrev mX8_undo : sm_Mu := (yX8_undo, cX8_undo, 1, (some .int))
theorem meX8_undo : sm_Me mX8_undo 0 := ⟨lw_good_in (List.mem_append_right _ (List.mem_of_getElem? (i := 489) (by decide +kernel))) (by decide +kernel), lw_good_in (List.mem_append_right _ (List.mem_of_getElem? (i := 1) (by decide +kernel))) (by decide +kernel), by decide +kernel, by decide +kernel⟩
abbrev mX3_recallInto : sm_Mu := (yX3_recallInto, cX3_recallInto, 2, (some .boolean))
theorem meX3_recallInto : sm_Me mX3_recallInto 1 := ⟨lw_good_in (List.mem_append_right _ (List.mem_of_getElem? (i := 493) (by decide +kernel))) (by decide +kernel), lw_good_in (List.mem_append_right _ (List.mem_of_getElem? (i := 6) (by decide +kernel))) (by decide +kernel), by decide +kernel, by decide +kernel⟩
abbrev mX8_cask : sm_Mu := (yX8_cask, cX8_cask, 4, (some .int))
theorem meX8_cask : sm_Me mX8_cask 2 := ⟨lw_good_in (List.mem_append_right _ (List.mem_of_getElem? (i := 497) (by decide +kernel))) (by decide +kernel), lw_good_in (List.mem_append_right _ (List.mem_of_getElem? (i := 1) (by decide +kernel))) (by decide +kernel), by decide +kernel, by decide +kernel⟩
abbrev mX2_leastDip : sm_Mu := (yX2_leastDip, cX2_leastDip, 2, (some .int))
theorem meX2_leastDip : sm_Me mX2_leastDip 1 := ⟨lw_good_in (List.mem_append_right _ (List.mem_of_getElem? (i := 501) (by decide +kernel))) (by decide +kernel), lw_good_in (List.mem_append_right _ (List.mem_of_getElem? (i := 8) (by decide +kernel))) (by decide +kernel), by decide +kernel, by decide +kernel⟩
abbrev mX2_leastDipFrom : sm_Mu := (yX2_leastDipFrom, cX2_leastDipFrom, 4, (some .int))
theorem meX2_leastDipFrom : sm_Me mX2_leastDipFrom 2 := ⟨lw_good_in (List.mem_append_right _ (List.mem_of_getElem? (i := 505) (by decide +kernel))) (by decide +kernel), lw_good_in (List.mem_append_right _ (List.mem_of_getElem? (i := 8) (by decide +kernel))) (by decide +kernel), by decide +kernel, by decide +kernel⟩
abbrev mJ9_max_7cf53 : sm_Mu := (yJ9_max_7cf53, cJ9_max_7cf53, 2, (some .int))
theorem meJ9_max_7cf53 : sm_Me mJ9_max_7cf53 2 := ⟨lw_good_in (List.mem_append_right _ (List.mem_of_getElem? (i := 508) (by decide +kernel))) (by decide +kernel), lw_good_in (List.mem_append_right _ (List.mem_of_getElem? (i := 15) (by decide +kernel))) (by decide +kernel), by decide +kernel, by decide +kernel⟩
abbrev mX0_strength : sm_Mu := (yX0_strength, cX0_strength, 1, (some .float))
theorem meX0_strength : sm_Me mX0_strength 0 := ⟨lw_good_in (List.mem_append_right _ (List.mem_of_getElem? (i := 512) (by decide +kernel))) (by decide +kernel), lw_good_in (List.mem_append_right _ (List.mem_of_getElem? (i := 5) (by decide +kernel))) (by decide +kernel), by decide +kernel, by decide +kernel⟩
abbrev mX8_inThousandths : sm_Mu := (yX8_inThousandths, cX8_inThousandths, 1, (some .int))
theorem meX8_inThousandths : sm_Me mX8_inThousandths 1 := ⟨lw_good_in (List.mem_append_right _ (List.mem_of_getElem? (i := 515) (by decide +kernel))) (by decide +kernel), lw_good_in (List.mem_append_right _ (List.mem_of_getElem? (i := 1) (by decide +kernel))) (by decide +kernel), by decide +kernel, by decide +kernel⟩
abbrev mX8_slice : sm_Mu := (yX8_slice, cX8_slice, 5, (some .int))
theorem meX8_slice : sm_Me mX8_slice 3 := ⟨lw_good_in (List.mem_append_right _ (List.mem_of_getElem? (i := 520) (by decide +kernel))) (by decide +kernel), lw_good_in (List.mem_append_right _ (List.mem_of_getElem? (i := 1) (by decide +kernel))) (by decide +kernel), by decide +kernel, by decide +kernel⟩
abbrev mX8_under : sm_Mu := (yX8_under, cX8_under, 4, (some .int))
theorem meX8_under : sm_Me mX8_under 2 := ⟨lw_good_in (List.mem_append_right _ (List.mem_of_getElem? (i := 526) (by decide +kernel))) (by decide +kernel), lw_good_in (List.mem_append_right _ (List.mem_of_getElem? (i := 1) (by decide +kernel))) (by decide +kernel), by decide +kernel, by decide +kernel⟩
abbrev mX8_dip : sm_Mu := (yX8_dip, cX8_dip, 4, (some .int))
theorem meX8_dip : sm_Me mX8_dip 2 := ⟨lw_good_in (List.mem_append_right _ (List.mem_of_getElem? (i := 532) (by decide +kernel))) (by decide +kernel), lw_good_in (List.mem_append_right _ (List.mem_of_getElem? (i := 1) (by decide +kernel))) (by decide +kernel), by decide +kernel, by decide +kernel⟩
abbrev mX8_stick : sm_Mu := (yX8_stick, cX8_stick, 4, (some .int))
theorem meX8_stick : sm_Me mX8_stick 3 := ⟨lw_good_in (List.mem_append_right _ (List.mem_of_getElem? (i := 536) (by decide +kernel))) (by decide +kernel), lw_good_in (List.mem_append_right _ (List.mem_of_getElem? (i := 1) (by decide +kernel))) (by decide +kernel), by decide +kernel, by decide +kernel⟩
abbrev mX2_markAt : sm_Mu := (yX2_markAt, cX2_markAt, 5, (some .int))
theorem meX2_markAt : sm_Me mX2_markAt 2 := ⟨lw_good_in (List.mem_append_right _ (List.mem_of_getElem? (i := 540) (by decide +kernel))) (by decide +kernel), lw_good_in (List.mem_append_right _ (List.mem_of_getElem? (i := 8) (by decide +kernel))) (by decide +kernel), by decide +kernel, by decide +kernel⟩
abbrev mX8_known : sm_Mu := (yX8_known, cX8_known, 7, (some .int))
theorem meX8_known : sm_Me mX8_known 3 := ⟨lw_good_in (List.mem_append_right _ (List.mem_of_getElem? (i := 545) (by decide +kernel))) (by decide +kernel), lw_good_in (List.mem_append_right _ (List.mem_of_getElem? (i := 1) (by decide +kernel))) (by decide +kernel), by decide +kernel, by decide +kernel⟩
abbrev mX8_shares : sm_Mu := (yX8_shares, cX8_shares, 5, (some .int))
theorem meX8_shares : sm_Me mX8_shares 3 := ⟨lw_good_in (List.mem_append_right _ (List.mem_of_getElem? (i := 549) (by decide +kernel))) (by decide +kernel), lw_good_in (List.mem_append_right _ (List.mem_of_getElem? (i := 1) (by decide +kernel))) (by decide +kernel), by decide +kernel, by decide +kernel⟩
abbrev mX5_findFairest : sm_Mu := (yX5_findFairest, cX5_findFairest, 7, none)
theorem meX5_findFairest : sm_Me mX5_findFairest 3 := ⟨lw_good_in (List.mem_append_right _ (List.mem_of_getElem? (i := 553) (by decide +kernel))) (by decide +kernel), lw_good_in (List.mem_append_right _ (List.mem_of_getElem? (i := 9) (by decide +kernel))) (by decide +kernel), by decide +kernel, by decide +kernel⟩
abbrev mX5_weigh : sm_Mu := (yX5_weigh, cX5_weigh, 9, none)
theorem meX5_weigh : sm_Me mX5_weigh 4 := ⟨lw_good_in (List.mem_append_right _ (List.mem_of_getElem? (i := 559) (by decide +kernel))) (by decide +kernel), lw_good_in (List.mem_append_right _ (List.mem_of_getElem? (i := 9) (by decide +kernel))) (by decide +kernel), by decide +kernel, by decide +kernel⟩
abbrev mX8_all : sm_Mu := (yX8_all, cX8_all, 2, (some .int))
theorem meX8_all : sm_Me mX8_all 1 := ⟨lw_good_in (List.mem_append_right _ (List.mem_of_getElem? (i := 565) (by decide +kernel))) (by decide +kernel), lw_good_in (List.mem_append_right _ (List.mem_of_getElem? (i := 1) (by decide +kernel))) (by decide +kernel), by decide +kernel, by decide +kernel⟩
abbrev mX1_strongest : sm_Mu := (yX1_strongest, cX1_strongest, 4, (some .int))
theorem meX1_strongest : sm_Me mX1_strongest 0 := ⟨lw_good_in (List.mem_append_right _ (List.mem_of_getElem? (i := 569) (by decide +kernel))) (by decide +kernel), lw_good_in (List.mem_append_right _ (List.mem_of_getElem? (i := 4) (by decide +kernel))) (by decide +kernel), by decide +kernel, by decide +kernel⟩
abbrev mX1_meanStrength : sm_Mu := (yX1_meanStrength, cX1_meanStrength, 4, (some .float))
theorem meX1_meanStrength : sm_Me mX1_meanStrength 0 := ⟨lw_good_in (List.mem_append_right _ (List.mem_of_getElem? (i := 574) (by decide +kernel))) (by decide +kernel), lw_good_in (List.mem_append_right _ (List.mem_of_getElem? (i := 4) (by decide +kernel))) (by decide +kernel), by decide +kernel, by decide +kernel⟩
abbrev mX8_sees : sm_Mu := (yX8_sees, cX8_sees, 3, (some .int))
theorem meX8_sees : sm_Me mX8_sees 2 := ⟨lw_good_in (List.mem_append_right _ (List.mem_of_getElem? (i := 578) (by decide +kernel))) (by decide +kernel), lw_good_in (List.mem_append_right _ (List.mem_of_getElem? (i := 1) (by decide +kernel))) (by decide +kernel), by decide +kernel, by decide +kernel⟩
abbrev mX6_add : sm_Mu := (yX6_add, cX6_add, 3, (some .boolean))
theorem meX6_add : sm_Me mX6_add 2 := ⟨lw_good_in (List.mem_append_right _ (List.mem_of_getElem? (i := 583) (by decide +kernel))) (by decide +kernel), lw_good_in (List.mem_append_right _ (List.mem_of_getElem? (i := 7) (by decide +kernel))) (by decide +kernel), by decide +kernel, by decide +kernel⟩
abbrev mX8_forget : sm_Mu := (yX8_forget, cX8_forget, 2, (some .int))
theorem meX8_forget : sm_Me mX8_forget 0 := ⟨lw_good_in (List.mem_append_right _ (List.mem_of_getElem? (i := 587) (by decide +kernel))) (by decide +kernel), lw_good_in (List.mem_append_right _ (List.mem_of_getElem? (i := 1) (by decide +kernel))) (by decide +kernel), by decide +kernel, by decide +kernel⟩
abbrev mX8_which : sm_Mu := (yX8_which, cX8_which, 3, (some .int))
theorem meX8_which : sm_Me mX8_which 0 := ⟨lw_good_in (List.mem_append_right _ (List.mem_of_getElem? (i := 591) (by decide +kernel))) (by decide +kernel), lw_good_in (List.mem_append_right _ (List.mem_of_getElem? (i := 1) (by decide +kernel))) (by decide +kernel), by decide +kernel, by decide +kernel⟩
abbrev mX6_fits : sm_Mu := (yX6_fits, cX6_fits, 3, (some .boolean))
theorem meX6_fits : sm_Me mX6_fits 1 := ⟨lw_good_in (List.mem_append_right _ (List.mem_of_getElem? (i := 595) (by decide +kernel))) (by decide +kernel), lw_good_in (List.mem_append_right _ (List.mem_of_getElem? (i := 7) (by decide +kernel))) (by decide +kernel), by decide +kernel, by decide +kernel⟩
abbrev mX8_ask : sm_Mu := (yX8_ask, cX8_ask, 6, (some .int))
theorem meX8_ask : sm_Me mX8_ask 0 := ⟨lw_good_in (List.mem_append_right _ (List.mem_of_getElem? (i := 600) (by decide +kernel))) (by decide +kernel), lw_good_in (List.mem_append_right _ (List.mem_of_getElem? (i := 1) (by decide +kernel))) (by decide +kernel), by decide +kernel, by decide +kernel⟩
abbrev mJ6_bitCount_0f7a4 : sm_Mu := (yJ6_bitCount_0f7a4, cJ6_bitCount_0f7a4, 1, (some .int))
theorem meJ6_bitCount_0f7a4 : sm_Me mJ6_bitCount_0f7a4 1 := ⟨lw_good_in (List.mem_append_right _ (List.mem_of_getElem? (i := 604) (by decide +kernel))) (by decide +kernel), lw_good_in (List.mem_append_right _ (List.mem_of_getElem? (i := 16) (by decide +kernel))) (by decide +kernel), by decide +kernel, by decide +kernel⟩
abbrev mX8_startAsking : sm_Mu := (yX8_startAsking, cX8_startAsking, 2, none)
theorem meX8_startAsking : sm_Me mX8_startAsking 0 := ⟨lw_good_in (List.mem_append_right _ (List.mem_of_getElem? (i := 611) (by decide +kernel))) (by decide +kernel), lw_good_in (List.mem_append_right _ (List.mem_of_getElem? (i := 1) (by decide +kernel))) (by decide +kernel), by decide +kernel, by decide +kernel⟩
abbrev mX8_mostAlike : sm_Mu := (yX8_mostAlike, cX8_mostAlike, 6, (some .int))
theorem meX8_mostAlike : sm_Me mX8_mostAlike 1 := ⟨lw_good_in (List.mem_append_right _ (List.mem_of_getElem? (i := 615) (by decide +kernel))) (by decide +kernel), lw_good_in (List.mem_append_right _ (List.mem_of_getElem? (i := 1) (by decide +kernel))) (by decide +kernel), by decide +kernel, by decide +kernel⟩
abbrev mX8_raiseAskedDips : sm_Mu := (yX8_raiseAskedDips, cX8_raiseAskedDips, 5, (some .boolean))
theorem meX8_raiseAskedDips : sm_Me mX8_raiseAskedDips 1 := ⟨lw_good_in (List.mem_append_right _ (List.mem_of_getElem? (i := 620) (by decide +kernel))) (by decide +kernel), lw_good_in (List.mem_append_right _ (List.mem_of_getElem? (i := 1) (by decide +kernel))) (by decide +kernel), by decide +kernel, by decide +kernel⟩
abbrev mX8_keep : sm_Mu := (yX8_keep, cX8_keep, 2, (some .int))
theorem meX8_keep : sm_Me mX8_keep 1 := ⟨lw_good_in (List.mem_append_right _ (List.mem_of_getElem? (i := 625) (by decide +kernel))) (by decide +kernel), lw_good_in (List.mem_append_right _ (List.mem_of_getElem? (i := 1) (by decide +kernel))) (by decide +kernel), by decide +kernel, by decide +kernel⟩
abbrev mX8_back : sm_Mu := (yX8_back, cX8_back, 2, (some .int))
theorem meX8_back : sm_Me mX8_back 1 := ⟨lw_good_in (List.mem_append_right _ (List.mem_of_getElem? (i := 629) (by decide +kernel))) (by decide +kernel), lw_good_in (List.mem_append_right _ (List.mem_of_getElem? (i := 1) (by decide +kernel))) (by decide +kernel), by decide +kernel, by decide +kernel⟩
abbrev mX8_count : sm_Mu := (yX8_count, cX8_count, 2, (some .int))
theorem meX8_count : sm_Me mX8_count 1 := ⟨lw_good_in (List.mem_append_right _ (List.mem_of_getElem? (i := 633) (by decide +kernel))) (by decide +kernel), lw_good_in (List.mem_append_right _ (List.mem_of_getElem? (i := 1) (by decide +kernel))) (by decide +kernel), by decide +kernel, by decide +kernel⟩
abbrev mX1_allWine : sm_Mu := (yX1_allWine, cX1_allWine, 3, (some .int))
theorem meX1_allWine : sm_Me mX1_allWine 0 := ⟨lw_good_in (List.mem_append_right _ (List.mem_of_getElem? (i := 637) (by decide +kernel))) (by decide +kernel), lw_good_in (List.mem_append_right _ (List.mem_of_getElem? (i := 4) (by decide +kernel))) (by decide +kernel), by decide +kernel, by decide +kernel⟩
abbrev mX1_allSpirit : sm_Mu := (yX1_allSpirit, cX1_allSpirit, 3, (some .int))
theorem meX1_allSpirit : sm_Me mX1_allSpirit 0 := ⟨lw_good_in (List.mem_append_right _ (List.mem_of_getElem? (i := 641) (by decide +kernel))) (by decide +kernel), lw_good_in (List.mem_append_right _ (List.mem_of_getElem? (i := 4) (by decide +kernel))) (by decide +kernel), by decide +kernel, by decide +kernel⟩
abbrev mX9_init : sm_Mu := (yX9_init, cX9_init, 1, none)
theorem meX9_init : sm_Me mX9_init 0 := ⟨lw_good_in (List.mem_append_right _ (List.mem_of_getElem? (i := 646) (by decide +kernel))) (by decide +kernel), lw_good_in (List.mem_append_right _ (List.mem_of_getElem? (i := 10) (by decide +kernel))) (by decide +kernel), by decide +kernel, by decide +kernel⟩
abbrev mX9_type : sm_Mu := (yX9_type, cX9_type, 2, (some .int))
theorem meX9_type : sm_Me mX9_type 1 := ⟨lw_good_in (List.mem_append_right _ (List.mem_of_getElem? (i := 715) (by decide +kernel))) (by decide +kernel), lw_good_in (List.mem_append_right _ (List.mem_of_getElem? (i := 10) (by decide +kernel))) (by decide +kernel), by decide +kernel, by decide +kernel⟩
abbrev mX9_in : sm_Mu := (yX9_in, cX9_in, 3, (some .boolean))
theorem meX9_in : sm_Me mX9_in 3 := ⟨lw_good_in (List.mem_append_right _ (List.mem_of_getElem? (i := 718) (by decide +kernel))) (by decide +kernel), lw_good_in (List.mem_append_right _ (List.mem_of_getElem? (i := 10) (by decide +kernel))) (by decide +kernel), by decide +kernel, by decide +kernel⟩
abbrev mX9_clear : sm_Mu := (yX9_clear, cX9_clear, 2, (some .int))
theorem meX9_clear : sm_Me mX9_clear 0 := ⟨lw_good_in (List.mem_append_right _ (List.mem_of_getElem? (i := 722) (by decide +kernel))) (by decide +kernel), lw_good_in (List.mem_append_right _ (List.mem_of_getElem? (i := 10) (by decide +kernel))) (by decide +kernel), by decide +kernel, by decide +kernel⟩
abbrev mX9_tells : sm_Mu := (yX9_tells, cX9_tells, 3, (some .int))
theorem meX9_tells : sm_Me mX9_tells 0 := ⟨lw_good_in (List.mem_append_right _ (List.mem_of_getElem? (i := 726) (by decide +kernel))) (by decide +kernel), lw_good_in (List.mem_append_right _ (List.mem_of_getElem? (i := 10) (by decide +kernel))) (by decide +kernel), by decide +kernel, by decide +kernel⟩
abbrev mX9_reads : sm_Mu := (yX9_reads, cX9_reads, 2, (some .int))
theorem meX9_reads : sm_Me mX9_reads 0 := ⟨lw_good_in (List.mem_append_right _ (List.mem_of_getElem? (i := 730) (by decide +kernel))) (by decide +kernel), lw_good_in (List.mem_append_right _ (List.mem_of_getElem? (i := 10) (by decide +kernel))) (by decide +kernel), by decide +kernel, by decide +kernel⟩
abbrev mX9_steps : sm_Mu := (yX9_steps, cX9_steps, 1, none)
theorem meX9_steps : sm_Me mX9_steps 0 := ⟨lw_good_in (List.mem_append_right _ (List.mem_of_getElem? (i := 734) (by decide +kernel))) (by decide +kernel), lw_good_in (List.mem_append_right _ (List.mem_of_getElem? (i := 10) (by decide +kernel))) (by decide +kernel), by decide +kernel, by decide +kernel⟩
abbrev mX9_at : sm_Mu := (yX9_at, cX9_at, 2, (some .int))
theorem meX9_at : sm_Me mX9_at 1 := ⟨lw_good_in (List.mem_append_right _ (List.mem_of_getElem? (i := 738) (by decide +kernel))) (by decide +kernel), lw_good_in (List.mem_append_right _ (List.mem_of_getElem? (i := 10) (by decide +kernel))) (by decide +kernel), by decide +kernel, by decide +kernel⟩
abbrev mX9_takesFigures : sm_Mu := (yX9_takesFigures, cX9_takesFigures, 1, none)
theorem meX9_takesFigures : sm_Me mX9_takesFigures 0 := ⟨lw_good_in (List.mem_append_right _ (List.mem_of_getElem? (i := 742) (by decide +kernel))) (by decide +kernel), lw_good_in (List.mem_append_right _ (List.mem_of_getElem? (i := 10) (by decide +kernel))) (by decide +kernel), by decide +kernel, by decide +kernel⟩
abbrev mX9_isCaskWord : sm_Mu := (yX9_isCaskWord, cX9_isCaskWord, 1, (some .boolean))
theorem meX9_isCaskWord : sm_Me mX9_isCaskWord 0 := ⟨lw_good_in (List.mem_append_right _ (List.mem_of_getElem? (i := 746) (by decide +kernel))) (by decide +kernel), lw_good_in (List.mem_append_right _ (List.mem_of_getElem? (i := 10) (by decide +kernel))) (by decide +kernel), by decide +kernel, by decide +kernel⟩
abbrev mX9_isStandsWord : sm_Mu := (yX9_isStandsWord, cX9_isStandsWord, 1, (some .boolean))
theorem meX9_isStandsWord : sm_Me mX9_isStandsWord 0 := ⟨lw_good_in (List.mem_append_right _ (List.mem_of_getElem? (i := 750) (by decide +kernel))) (by decide +kernel), lw_good_in (List.mem_append_right _ (List.mem_of_getElem? (i := 10) (by decide +kernel))) (by decide +kernel), by decide +kernel, by decide +kernel⟩
abbrev mX9_readsCask : sm_Mu := (yX9_readsCask, cX9_readsCask, 5, none)
theorem meX9_readsCask : sm_Me mX9_readsCask 0 := ⟨lw_good_in (List.mem_append_right _ (List.mem_of_getElem? (i := 754) (by decide +kernel))) (by decide +kernel), lw_good_in (List.mem_append_right _ (List.mem_of_getElem? (i := 10) (by decide +kernel))) (by decide +kernel), by decide +kernel, by decide +kernel⟩
abbrev mX9_takes : sm_Mu := (yX9_takes, cX9_takes, 2, none)
theorem meX9_takes : sm_Me mX9_takes 1 := ⟨lw_good_in (List.mem_append_right _ (List.mem_of_getElem? (i := 758) (by decide +kernel))) (by decide +kernel), lw_good_in (List.mem_append_right _ (List.mem_of_getElem? (i := 10) (by decide +kernel))) (by decide +kernel), by decide +kernel, by decide +kernel⟩
abbrev mX9_numberIn : sm_Mu := (yX9_numberIn, cX9_numberIn, 4, (some .int))
theorem meX9_numberIn : sm_Me mX9_numberIn 2 := ⟨lw_good_in (List.mem_append_right _ (List.mem_of_getElem? (i := 762) (by decide +kernel))) (by decide +kernel), lw_good_in (List.mem_append_right _ (List.mem_of_getElem? (i := 10) (by decide +kernel))) (by decide +kernel), by decide +kernel, by decide +kernel⟩
abbrev mX9_readsStands : sm_Mu := (yX9_readsStands, cX9_readsStands, 2, none)
theorem meX9_readsStands : sm_Me mX9_readsStands 0 := ⟨lw_good_in (List.mem_append_right _ (List.mem_of_getElem? (i := 766) (by decide +kernel))) (by decide +kernel), lw_good_in (List.mem_append_right _ (List.mem_of_getElem? (i := 10) (by decide +kernel))) (by decide +kernel), by decide +kernel, by decide +kernel⟩
abbrev mX9_notes : sm_Mu := (yX9_notes, cX9_notes, 2, none)
theorem meX9_notes : sm_Me mX9_notes 0 := ⟨lw_good_in (List.mem_append_right _ (List.mem_of_getElem? (i := 770) (by decide +kernel))) (by decide +kernel), lw_good_in (List.mem_append_right _ (List.mem_of_getElem? (i := 10) (by decide +kernel))) (by decide +kernel), by decide +kernel, by decide +kernel⟩
abbrev mX9_fills : sm_Mu := (yX9_fills, cX9_fills, 4, (some .int))
theorem meX9_fills : sm_Me mX9_fills 3 := ⟨lw_good_in (List.mem_append_right _ (List.mem_of_getElem? (i := 774) (by decide +kernel))) (by decide +kernel), lw_good_in (List.mem_append_right _ (List.mem_of_getElem? (i := 10) (by decide +kernel))) (by decide +kernel), by decide +kernel, by decide +kernel⟩
abbrev mX9_isCask : sm_Mu := (yX9_isCask, cX9_isCask, 2, (some .boolean))
theorem meX9_isCask : sm_Me mX9_isCask 1 := ⟨lw_good_in (List.mem_append_right _ (List.mem_of_getElem? (i := 778) (by decide +kernel))) (by decide +kernel), lw_good_in (List.mem_append_right _ (List.mem_of_getElem? (i := 10) (by decide +kernel))) (by decide +kernel), by decide +kernel, by decide +kernel⟩
abbrev mX9_hold : sm_Mu := (yX9_hold, cX9_hold, 2, (some .int))
theorem meX9_hold : sm_Me mX9_hold 1 := ⟨lw_good_in (List.mem_append_right _ (List.mem_of_getElem? (i := 782) (by decide +kernel))) (by decide +kernel), lw_good_in (List.mem_append_right _ (List.mem_of_getElem? (i := 10) (by decide +kernel))) (by decide +kernel), by decide +kernel, by decide +kernel⟩
abbrev mX9_laysNow : sm_Mu := (yX9_laysNow, cX9_laysNow, 2, none)
theorem meX9_laysNow : sm_Me mX9_laysNow 1 := ⟨lw_good_in (List.mem_append_right _ (List.mem_of_getElem? (i := 786) (by decide +kernel))) (by decide +kernel), lw_good_in (List.mem_append_right _ (List.mem_of_getElem? (i := 10) (by decide +kernel))) (by decide +kernel), by decide +kernel, by decide +kernel⟩
abbrev mX9_of : sm_Mu := (yX9_of, cX9_of, 3, (some .int))
theorem meX9_of : sm_Me mX9_of 2 := ⟨lw_good_in (List.mem_append_right _ (List.mem_of_getElem? (i := 790) (by decide +kernel))) (by decide +kernel), lw_good_in (List.mem_append_right _ (List.mem_of_getElem? (i := 10) (by decide +kernel))) (by decide +kernel), by decide +kernel, by decide +kernel⟩
abbrev mX9_lays : sm_Mu := (yX9_lays, cX9_lays, 6, none)
theorem meX9_lays : sm_Me mX9_lays 2 := ⟨lw_good_in (List.mem_append_right _ (List.mem_of_getElem? (i := 794) (by decide +kernel))) (by decide +kernel), lw_good_in (List.mem_append_right _ (List.mem_of_getElem? (i := 10) (by decide +kernel))) (by decide +kernel), by decide +kernel, by decide +kernel⟩
abbrev mX9_cellsOf : sm_Mu := (yX9_cellsOf, cX9_cellsOf, 8, (some .int))
theorem meX9_cellsOf : sm_Me mX9_cellsOf 3 := ⟨lw_good_in (List.mem_append_right _ (List.mem_of_getElem? (i := 798) (by decide +kernel))) (by decide +kernel), lw_good_in (List.mem_append_right _ (List.mem_of_getElem? (i := 10) (by decide +kernel))) (by decide +kernel), by decide +kernel, by decide +kernel⟩
abbrev mX9_radius : sm_Mu := (yX9_radius, cX9_radius, 5, (some .int))
theorem meX9_radius : sm_Me mX9_radius 2 := ⟨lw_good_in (List.mem_append_right _ (List.mem_of_getElem? (i := 802) (by decide +kernel))) (by decide +kernel), lw_good_in (List.mem_append_right _ (List.mem_of_getElem? (i := 10) (by decide +kernel))) (by decide +kernel), by decide +kernel, by decide +kernel⟩
abbrev mX9_draws : sm_Mu := (yX9_draws, cX9_draws, 4, (some .int))
theorem meX9_draws : sm_Me mX9_draws 2 := ⟨lw_good_in (List.mem_append_right _ (List.mem_of_getElem? (i := 806) (by decide +kernel))) (by decide +kernel), lw_good_in (List.mem_append_right _ (List.mem_of_getElem? (i := 10) (by decide +kernel))) (by decide +kernel), by decide +kernel, by decide +kernel⟩
abbrev mX9_goes : sm_Mu := (yX9_goes, cX9_goes, 4, (some .int))
theorem meX9_goes : sm_Me mX9_goes 2 := ⟨lw_good_in (List.mem_append_right _ (List.mem_of_getElem? (i := 810) (by decide +kernel))) (by decide +kernel), lw_good_in (List.mem_append_right _ (List.mem_of_getElem? (i := 10) (by decide +kernel))) (by decide +kernel), by decide +kernel, by decide +kernel⟩
abbrev mX9_pours : sm_Mu := (yX9_pours, cX9_pours, 4, (some .int))
theorem meX9_pours : sm_Me mX9_pours 3 := ⟨lw_good_in (List.mem_append_right _ (List.mem_of_getElem? (i := 814) (by decide +kernel))) (by decide +kernel), lw_good_in (List.mem_append_right _ (List.mem_of_getElem? (i := 10) (by decide +kernel))) (by decide +kernel), by decide +kernel, by decide +kernel⟩
abbrev mX9_turnsOver : sm_Mu := (yX9_turnsOver, cX9_turnsOver, 2, (some .int))
theorem meX9_turnsOver : sm_Me mX9_turnsOver 1 := ⟨lw_good_in (List.mem_append_right _ (List.mem_of_getElem? (i := 818) (by decide +kernel))) (by decide +kernel), lw_good_in (List.mem_append_right _ (List.mem_of_getElem? (i := 10) (by decide +kernel))) (by decide +kernel), by decide +kernel, by decide +kernel⟩
abbrev mX9_undo : sm_Mu := (yX9_undo, cX9_undo, 2, (some .int))
theorem meX9_undo : sm_Me mX9_undo 0 := ⟨lw_good_in (List.mem_append_right _ (List.mem_of_getElem? (i := 822) (by decide +kernel))) (by decide +kernel), lw_good_in (List.mem_append_right _ (List.mem_of_getElem? (i := 10) (by decide +kernel))) (by decide +kernel), by decide +kernel, by decide +kernel⟩
abbrev mX9_cask : sm_Mu := (yX9_cask, cX9_cask, 3, (some .int))
theorem meX9_cask : sm_Me mX9_cask 2 := ⟨lw_good_in (List.mem_append_right _ (List.mem_of_getElem? (i := 826) (by decide +kernel))) (by decide +kernel), lw_good_in (List.mem_append_right _ (List.mem_of_getElem? (i := 10) (by decide +kernel))) (by decide +kernel), by decide +kernel, by decide +kernel⟩
abbrev mX9_dipOf : sm_Mu := (yX9_dipOf, cX9_dipOf, 3, (some .int))
theorem meX9_dipOf : sm_Me mX9_dipOf 1 := ⟨lw_good_in (List.mem_append_right _ (List.mem_of_getElem? (i := 830) (by decide +kernel))) (by decide +kernel), lw_good_in (List.mem_append_right _ (List.mem_of_getElem? (i := 10) (by decide +kernel))) (by decide +kernel), by decide +kernel, by decide +kernel⟩
abbrev mX9_strength : sm_Mu := (yX9_strength, cX9_strength, 2, (some .float))
theorem meX9_strength : sm_Me mX9_strength 1 := ⟨lw_good_in (List.mem_append_right _ (List.mem_of_getElem? (i := 835) (by decide +kernel))) (by decide +kernel), lw_good_in (List.mem_append_right _ (List.mem_of_getElem? (i := 10) (by decide +kernel))) (by decide +kernel), by decide +kernel, by decide +kernel⟩
abbrev mX9_slice : sm_Mu := (yX9_slice, cX9_slice, 4, (some .int))
theorem meX9_slice : sm_Me mX9_slice 3 := ⟨lw_good_in (List.mem_append_right _ (List.mem_of_getElem? (i := 839) (by decide +kernel))) (by decide +kernel), lw_good_in (List.mem_append_right _ (List.mem_of_getElem? (i := 10) (by decide +kernel))) (by decide +kernel), by decide +kernel, by decide +kernel⟩
abbrev mX9_under : sm_Mu := (yX9_under, cX9_under, 3, (some .int))
theorem meX9_under : sm_Me mX9_under 2 := ⟨lw_good_in (List.mem_append_right _ (List.mem_of_getElem? (i := 843) (by decide +kernel))) (by decide +kernel), lw_good_in (List.mem_append_right _ (List.mem_of_getElem? (i := 10) (by decide +kernel))) (by decide +kernel), by decide +kernel, by decide +kernel⟩
abbrev mX9_isHeight : sm_Mu := (yX9_isHeight, cX9_isHeight, 3, (some .boolean))
theorem meX9_isHeight : sm_Me mX9_isHeight 2 := ⟨lw_good_in (List.mem_append_right _ (List.mem_of_getElem? (i := 847) (by decide +kernel))) (by decide +kernel), lw_good_in (List.mem_append_right _ (List.mem_of_getElem? (i := 10) (by decide +kernel))) (by decide +kernel), by decide +kernel, by decide +kernel⟩
abbrev mX9_dip : sm_Mu := (yX9_dip, cX9_dip, 3, (some .int))
theorem meX9_dip : sm_Me mX9_dip 2 := ⟨lw_good_in (List.mem_append_right _ (List.mem_of_getElem? (i := 851) (by decide +kernel))) (by decide +kernel), lw_good_in (List.mem_append_right _ (List.mem_of_getElem? (i := 10) (by decide +kernel))) (by decide +kernel), by decide +kernel, by decide +kernel⟩
abbrev mX9_stick : sm_Mu := (yX9_stick, cX9_stick, 6, (some .int))
theorem meX9_stick : sm_Me mX9_stick 3 := ⟨lw_good_in (List.mem_append_right _ (List.mem_of_getElem? (i := 855) (by decide +kernel))) (by decide +kernel), lw_good_in (List.mem_append_right _ (List.mem_of_getElem? (i := 10) (by decide +kernel))) (by decide +kernel), by decide +kernel, by decide +kernel⟩
abbrev mX9_known : sm_Mu := (yX9_known, cX9_known, 5, (some .int))
theorem meX9_known : sm_Me mX9_known 3 := ⟨lw_good_in (List.mem_append_right _ (List.mem_of_getElem? (i := 859) (by decide +kernel))) (by decide +kernel), lw_good_in (List.mem_append_right _ (List.mem_of_getElem? (i := 10) (by decide +kernel))) (by decide +kernel), by decide +kernel, by decide +kernel⟩
abbrev mX9_shares : sm_Mu := (yX9_shares, cX9_shares, 11, (some .int))
theorem meX9_shares : sm_Me mX9_shares 3 := ⟨lw_good_in (List.mem_append_right _ (List.mem_of_getElem? (i := 863) (by decide +kernel))) (by decide +kernel), lw_good_in (List.mem_append_right _ (List.mem_of_getElem? (i := 10) (by decide +kernel))) (by decide +kernel), by decide +kernel, by decide +kernel⟩
abbrev mX9_mostBy : sm_Mu := (yX9_mostBy, cX9_mostBy, 6, (some .int))
theorem meX9_mostBy : sm_Me mX9_mostBy 3 := ⟨lw_good_in (List.mem_append_right _ (List.mem_of_getElem? (i := 867) (by decide +kernel))) (by decide +kernel), lw_good_in (List.mem_append_right _ (List.mem_of_getElem? (i := 10) (by decide +kernel))) (by decide +kernel), by decide +kernel, by decide +kernel⟩
abbrev mX9_all : sm_Mu := (yX9_all, cX9_all, 2, (some .int))
theorem meX9_all : sm_Me mX9_all 1 := ⟨lw_good_in (List.mem_append_right _ (List.mem_of_getElem? (i := 871) (by decide +kernel))) (by decide +kernel), lw_good_in (List.mem_append_right _ (List.mem_of_getElem? (i := 10) (by decide +kernel))) (by decide +kernel), by decide +kernel, by decide +kernel⟩
abbrev mX9_strongest : sm_Mu := (yX9_strongest, cX9_strongest, 3, (some .int))
theorem meX9_strongest : sm_Me mX9_strongest 0 := ⟨lw_good_in (List.mem_append_right _ (List.mem_of_getElem? (i := 875) (by decide +kernel))) (by decide +kernel), lw_good_in (List.mem_append_right _ (List.mem_of_getElem? (i := 10) (by decide +kernel))) (by decide +kernel), by decide +kernel, by decide +kernel⟩
abbrev mX9_mean : sm_Mu := (yX9_mean, cX9_mean, 4, (some .int))
theorem meX9_mean : sm_Me mX9_mean 0 := ⟨lw_good_in (List.mem_append_right _ (List.mem_of_getElem? (i := 879) (by decide +kernel))) (by decide +kernel), lw_good_in (List.mem_append_right _ (List.mem_of_getElem? (i := 10) (by decide +kernel))) (by decide +kernel), by decide +kernel, by decide +kernel⟩
abbrev mX9_sees : sm_Mu := (yX9_sees, cX9_sees, 3, (some .int))
theorem meX9_sees : sm_Me mX9_sees 2 := ⟨lw_good_in (List.mem_append_right _ (List.mem_of_getElem? (i := 883) (by decide +kernel))) (by decide +kernel), lw_good_in (List.mem_append_right _ (List.mem_of_getElem? (i := 10) (by decide +kernel))) (by decide +kernel), by decide +kernel, by decide +kernel⟩
abbrev mX9_forget : sm_Mu := (yX9_forget, cX9_forget, 2, (some .int))
theorem meX9_forget : sm_Me mX9_forget 0 := ⟨lw_good_in (List.mem_append_right _ (List.mem_of_getElem? (i := 888) (by decide +kernel))) (by decide +kernel), lw_good_in (List.mem_append_right _ (List.mem_of_getElem? (i := 10) (by decide +kernel))) (by decide +kernel), by decide +kernel, by decide +kernel⟩
abbrev mX9_which : sm_Mu := (yX9_which, cX9_which, 1, (some .int))
theorem meX9_which : sm_Me mX9_which 0 := ⟨lw_good_in (List.mem_append_right _ (List.mem_of_getElem? (i := 892) (by decide +kernel))) (by decide +kernel), lw_good_in (List.mem_append_right _ (List.mem_of_getElem? (i := 10) (by decide +kernel))) (by decide +kernel), by decide +kernel, by decide +kernel⟩
abbrev mX9_suspects : sm_Mu := (yX9_suspects, cX9_suspects, 5, (some .int))
theorem meX9_suspects : sm_Me mX9_suspects 0 := ⟨lw_good_in (List.mem_append_right _ (List.mem_of_getElem? (i := 896) (by decide +kernel))) (by decide +kernel), lw_good_in (List.mem_append_right _ (List.mem_of_getElem? (i := 10) (by decide +kernel))) (by decide +kernel), by decide +kernel, by decide +kernel⟩
abbrev mX9_ask : sm_Mu := (yX9_ask, cX9_ask, 6, (some .int))
theorem meX9_ask : sm_Me mX9_ask 0 := ⟨lw_good_in (List.mem_append_right _ (List.mem_of_getElem? (i := 900) (by decide +kernel))) (by decide +kernel), lw_good_in (List.mem_append_right _ (List.mem_of_getElem? (i := 10) (by decide +kernel))) (by decide +kernel), by decide +kernel, by decide +kernel⟩
abbrev mX9_laysDips : sm_Mu := (yX9_laysDips, cX9_laysDips, 3, none)
theorem meX9_laysDips : sm_Me mX9_laysDips 0 := ⟨lw_good_in (List.mem_append_right _ (List.mem_of_getElem? (i := 904) (by decide +kernel))) (by decide +kernel), lw_good_in (List.mem_append_right _ (List.mem_of_getElem? (i := 10) (by decide +kernel))) (by decide +kernel), by decide +kernel, by decide +kernel⟩
abbrev mX9_alike : sm_Mu := (yX9_alike, cX9_alike, 7, (some .int))
theorem meX9_alike : sm_Me mX9_alike 2 := ⟨lw_good_in (List.mem_append_right _ (List.mem_of_getElem? (i := 908) (by decide +kernel))) (by decide +kernel), lw_good_in (List.mem_append_right _ (List.mem_of_getElem? (i := 10) (by decide +kernel))) (by decide +kernel), by decide +kernel, by decide +kernel⟩
abbrev mX9_keep : sm_Mu := (yX9_keep, cX9_keep, 3, (some .int))
theorem meX9_keep : sm_Me mX9_keep 1 := ⟨lw_good_in (List.mem_append_right _ (List.mem_of_getElem? (i := 912) (by decide +kernel))) (by decide +kernel), lw_good_in (List.mem_append_right _ (List.mem_of_getElem? (i := 10) (by decide +kernel))) (by decide +kernel), by decide +kernel, by decide +kernel⟩
abbrev mX9_back : sm_Mu := (yX9_back, cX9_back, 3, (some .int))
theorem meX9_back : sm_Me mX9_back 1 := ⟨lw_good_in (List.mem_append_right _ (List.mem_of_getElem? (i := 916) (by decide +kernel))) (by decide +kernel), lw_good_in (List.mem_append_right _ (List.mem_of_getElem? (i := 10) (by decide +kernel))) (by decide +kernel), by decide +kernel, by decide +kernel⟩
abbrev mX9_count : sm_Mu := (yX9_count, cX9_count, 2, (some .int))
theorem meX9_count : sm_Me mX9_count 1 := ⟨lw_good_in (List.mem_append_right _ (List.mem_of_getElem? (i := 920) (by decide +kernel))) (by decide +kernel), lw_good_in (List.mem_append_right _ (List.mem_of_getElem? (i := 10) (by decide +kernel))) (by decide +kernel), by decide +kernel, by decide +kernel⟩
abbrev mX9_sum : sm_Mu := (yX9_sum, cX9_sum, 4, (some .int))
theorem meX9_sum : sm_Me mX9_sum 1 := ⟨lw_good_in (List.mem_append_right _ (List.mem_of_getElem? (i := 924) (by decide +kernel))) (by decide +kernel), lw_good_in (List.mem_append_right _ (List.mem_of_getElem? (i := 10) (by decide +kernel))) (by decide +kernel), by decide +kernel, by decide +kernel⟩
theorem imX8_init : Cond.instanceMethod mX8_init.1 ∈ lw_good := lw_good_in (List.mem_append_right _ (List.mem_of_getElem? (i := 20) (by decide +kernel))) (by decide +kernel)
theorem imX7_init : Cond.instanceMethod mX7_init.1 ∈ lw_good := lw_good_in (List.mem_append_right _ (List.mem_of_getElem? (i := 28) (by decide +kernel))) (by decide +kernel)
theorem imX4_init : Cond.instanceMethod mX4_init.1 ∈ lw_good := lw_good_in (List.mem_append_right _ (List.mem_of_getElem? (i := 55) (by decide +kernel))) (by decide +kernel)
theorem imX1_init : Cond.instanceMethod mX1_init.1 ∈ lw_good := lw_good_in (List.mem_append_right _ (List.mem_of_getElem? (i := 61) (by decide +kernel))) (by decide +kernel)
theorem imX0_init : Cond.instanceMethod mX0_init.1 ∈ lw_good := lw_good_in (List.mem_append_right _ (List.mem_of_getElem? (i := 68) (by decide +kernel))) (by decide +kernel)
theorem imX3_init : Cond.instanceMethod mX3_init.1 ∈ lw_good := lw_good_in (List.mem_append_right _ (List.mem_of_getElem? (i := 133) (by decide +kernel))) (by decide +kernel)
theorem imX6_init : Cond.instanceMethod mX6_init.1 ∈ lw_good := lw_good_in (List.mem_append_right _ (List.mem_of_getElem? (i := 153) (by decide +kernel))) (by decide +kernel)
theorem imX2_init : Cond.instanceMethod mX2_init.1 ∈ lw_good := lw_good_in (List.mem_append_right _ (List.mem_of_getElem? (i := 172) (by decide +kernel))) (by decide +kernel)
theorem imX5_init : Cond.instanceMethod mX5_init.1 ∈ lw_good := lw_good_in (List.mem_append_right _ (List.mem_of_getElem? (i := 197) (by decide +kernel))) (by decide +kernel)
theorem imX8_type : Cond.instanceMethod mX8_type.1 ∈ lw_good := lw_good_in (List.mem_append_right _ (List.mem_of_getElem? (i := 256) (by decide +kernel))) (by decide +kernel)
theorem seX8_type : Cond.selects mX8_type.1.cls mX8_type.1 mX8_type.1 ∈ lw_good := lw_good_in (List.mem_append_right _ (List.mem_of_getElem? (i := 257) (by decide +kernel))) (by decide +kernel)
theorem imX7_add : Cond.instanceMethod mX7_add.1 ∈ lw_good := lw_good_in (List.mem_append_right _ (List.mem_of_getElem? (i := 260) (by decide +kernel))) (by decide +kernel)
theorem seX7_add : Cond.selects mX7_add.1.cls mX7_add.1 mX7_add.1 ∈ lw_good := lw_good_in (List.mem_append_right _ (List.mem_of_getElem? (i := 261) (by decide +kernel))) (by decide +kernel)
theorem imX8_clear : Cond.instanceMethod mX8_clear.1 ∈ lw_good := lw_good_in (List.mem_append_right _ (List.mem_of_getElem? (i := 264) (by decide +kernel))) (by decide +kernel)
theorem seX8_clear : Cond.selects mX8_clear.1.cls mX8_clear.1 mX8_clear.1 ∈ lw_good := lw_good_in (List.mem_append_right _ (List.mem_of_getElem? (i := 265) (by decide +kernel))) (by decide +kernel)
theorem imX8_tells : Cond.instanceMethod mX8_tells.1 ∈ lw_good := lw_good_in (List.mem_append_right _ (List.mem_of_getElem? (i := 268) (by decide +kernel))) (by decide +kernel)
theorem seX8_tells : Cond.selects mX8_tells.1.cls mX8_tells.1 mX8_tells.1 ∈ lw_good := lw_good_in (List.mem_append_right _ (List.mem_of_getElem? (i := 269) (by decide +kernel))) (by decide +kernel)
theorem imX4_readAll : Cond.instanceMethod mX4_readAll.1 ∈ lw_good := lw_good_in (List.mem_append_right _ (List.mem_of_getElem? (i := 272) (by decide +kernel))) (by decide +kernel)
theorem seX4_readAll : Cond.selects mX4_readAll.1.cls mX4_readAll.1 mX4_readAll.1 ∈ lw_good := lw_good_in (List.mem_append_right _ (List.mem_of_getElem? (i := 273) (by decide +kernel))) (by decide +kernel)
theorem imX7_split : Cond.instanceMethod mX7_split.1 ∈ lw_good := lw_good_in (List.mem_append_right _ (List.mem_of_getElem? (i := 276) (by decide +kernel))) (by decide +kernel)
theorem seX7_split : Cond.selects mX7_split.1.cls mX7_split.1 mX7_split.1 ∈ lw_good := lw_good_in (List.mem_append_right _ (List.mem_of_getElem? (i := 277) (by decide +kernel))) (by decide +kernel)
theorem imX7_goesOn : Cond.instanceMethod mX7_goesOn.1 ∈ lw_good := lw_good_in (List.mem_append_right _ (List.mem_of_getElem? (i := 281) (by decide +kernel))) (by decide +kernel)
theorem ssX7_isSmallLetter : Cond.static mX7_isSmallLetter.1 ∈ lw_good := lw_good_in (List.mem_append_right _ (List.mem_of_getElem? (i := 284) (by decide +kernel))) (by decide +kernel)
theorem ssX7_isFigure : Cond.static mX7_isFigure.1 ∈ lw_good := lw_good_in (List.mem_append_right _ (List.mem_of_getElem? (i := 287) (by decide +kernel))) (by decide +kernel)
theorem imX7_putKind : Cond.instanceMethod mX7_putKind.1 ∈ lw_good := lw_good_in (List.mem_append_right _ (List.mem_of_getElem? (i := 291) (by decide +kernel))) (by decide +kernel)
theorem imX7_kindOfWord : Cond.instanceMethod mX7_kindOfWord.1 ∈ lw_good := lw_good_in (List.mem_append_right _ (List.mem_of_getElem? (i := 295) (by decide +kernel))) (by decide +kernel)
theorem imX7_isWord : Cond.instanceMethod mX7_isWord.1 ∈ lw_good := lw_good_in (List.mem_append_right _ (List.mem_of_getElem? (i := 300) (by decide +kernel))) (by decide +kernel)
theorem imJ0_length_8abf5 : Cond.instanceMethod mJ0_length_8abf5.1 ∈ lw_good := lw_good_in (List.mem_append_right _ (List.mem_of_getElem? (i := 303) (by decide +kernel))) (by decide +kernel)
theorem seJ0_length_8abf5 : Cond.selects mJ0_length_8abf5.1.cls mJ0_length_8abf5.1 mJ0_length_8abf5.1 ∈ lw_good := lw_good_in (List.mem_append_right _ (List.mem_of_getElem? (i := 304) (by decide +kernel))) (by decide +kernel)
theorem imJ0_coder_7d493 : Cond.instanceMethod mJ0_coder_7d493.1 ∈ lw_good := lw_good_in (List.mem_append_right _ (List.mem_of_getElem? (i := 307) (by decide +kernel))) (by decide +kernel)
theorem seJ0_coder_7d493 : Cond.selects mJ0_coder_7d493.1.cls mJ0_coder_7d493.1 mJ0_coder_7d493.1 ∈ lw_good := lw_good_in (List.mem_append_right _ (List.mem_of_getElem? (i := 308) (by decide +kernel))) (by decide +kernel)
theorem imJ0_charAt_5068e : Cond.instanceMethod mJ0_charAt_5068e.1 ∈ lw_good := lw_good_in (List.mem_append_right _ (List.mem_of_getElem? (i := 313) (by decide +kernel))) (by decide +kernel)
theorem seJ0_charAt_5068e : Cond.selects mJ0_charAt_5068e.1.cls mJ0_charAt_5068e.1 mJ0_charAt_5068e.1 ∈ lw_good := lw_good_in (List.mem_append_right _ (List.mem_of_getElem? (i := 314) (by decide +kernel))) (by decide +kernel)
theorem imJ0_isLatin1_aae02 : Cond.instanceMethod mJ0_isLatin1_aae02.1 ∈ lw_good := lw_good_in (List.mem_append_right _ (List.mem_of_getElem? (i := 317) (by decide +kernel))) (by decide +kernel)
theorem seJ0_isLatin1_aae02 : Cond.selects mJ0_isLatin1_aae02.1.cls mJ0_isLatin1_aae02.1 mJ0_isLatin1_aae02.1 ∈ lw_good := lw_good_in (List.mem_append_right _ (List.mem_of_getElem? (i := 318) (by decide +kernel))) (by decide +kernel)
theorem ssJ1_charAt_3b067 : Cond.static mJ1_charAt_3b067.1 ∈ lw_good := lw_good_in (List.mem_append_right _ (List.mem_of_getElem? (i := 321) (by decide +kernel))) (by decide +kernel)
theorem ssJ0_checkIndex_df160 : Cond.static mJ0_checkIndex_df160.1 ∈ lw_good := lw_good_in (List.mem_append_right _ (List.mem_of_getElem? (i := 324) (by decide +kernel))) (by decide +kernel)
theorem ssJ3_checkIndex_8e157 : Cond.static mJ3_checkIndex_8e157.1 ∈ lw_good := lw_good_in (List.mem_append_right _ (List.mem_of_getElem? (i := 329) (by decide +kernel))) (by decide +kernel)
theorem ssJ2_charAt_3b067 : Cond.static mJ2_charAt_3b067.1 ∈ lw_good := lw_good_in (List.mem_append_right _ (List.mem_of_getElem? (i := 332) (by decide +kernel))) (by decide +kernel)
theorem ssJ2_checkIndex_2214a : Cond.static mJ2_checkIndex_2214a.1 ∈ lw_good := lw_good_in (List.mem_append_right _ (List.mem_of_getElem? (i := 335) (by decide +kernel))) (by decide +kernel)
theorem ssJ2_length_9d52b : Cond.static mJ2_length_9d52b.1 ∈ lw_good := lw_good_in (List.mem_append_right _ (List.mem_of_getElem? (i := 338) (by decide +kernel))) (by decide +kernel)
theorem ssJ2_getChar_3b067 : Cond.static mJ2_getChar_3b067.1 ∈ lw_good := lw_good_in (List.mem_append_right _ (List.mem_of_getElem? (i := 342) (by decide +kernel))) (by decide +kernel)
theorem imX7_kindOfNumber : Cond.instanceMethod mX7_kindOfNumber.1 ∈ lw_good := lw_good_in (List.mem_append_right _ (List.mem_of_getElem? (i := 353) (by decide +kernel))) (by decide +kernel)
theorem imX7_valueOf : Cond.instanceMethod mX7_valueOf.1 ∈ lw_good := lw_good_in (List.mem_append_right _ (List.mem_of_getElem? (i := 357) (by decide +kernel))) (by decide +kernel)
theorem imX1_empty : Cond.instanceMethod mX1_empty.1 ∈ lw_good := lw_good_in (List.mem_append_right _ (List.mem_of_getElem? (i := 360) (by decide +kernel))) (by decide +kernel)
theorem seX1_empty : Cond.selects mX1_empty.1.cls mX1_empty.1 mX1_empty.1 ∈ lw_good := lw_good_in (List.mem_append_right _ (List.mem_of_getElem? (i := 361) (by decide +kernel))) (by decide +kernel)
theorem imX4_readItem : Cond.instanceMethod mX4_readItem.1 ∈ lw_good := lw_good_in (List.mem_append_right _ (List.mem_of_getElem? (i := 365) (by decide +kernel))) (by decide +kernel)
theorem imX4_readCask : Cond.instanceMethod mX4_readCask.1 ∈ lw_good := lw_good_in (List.mem_append_right _ (List.mem_of_getElem? (i := 369) (by decide +kernel))) (by decide +kernel)
theorem imX4_readNumber : Cond.instanceMethod mX4_readNumber.1 ∈ lw_good := lw_good_in (List.mem_append_right _ (List.mem_of_getElem? (i := 373) (by decide +kernel))) (by decide +kernel)
theorem imX4_step : Cond.instanceMethod mX4_step.1 ∈ lw_good := lw_good_in (List.mem_append_right _ (List.mem_of_getElem? (i := 377) (by decide +kernel))) (by decide +kernel)
theorem imX4_readItemEnd : Cond.instanceMethod mX4_readItemEnd.1 ∈ lw_good := lw_good_in (List.mem_append_right _ (List.mem_of_getElem? (i := 381) (by decide +kernel))) (by decide +kernel)
theorem imX1_add : Cond.instanceMethod mX1_add.1 ∈ lw_good := lw_good_in (List.mem_append_right _ (List.mem_of_getElem? (i := 384) (by decide +kernel))) (by decide +kernel)
theorem seX1_add : Cond.selects mX1_add.1.cls mX1_add.1 mX1_add.1 ∈ lw_good := lw_good_in (List.mem_append_right _ (List.mem_of_getElem? (i := 385) (by decide +kernel))) (by decide +kernel)
theorem imX0_becomeNew : Cond.instanceMethod mX0_becomeNew.1 ∈ lw_good := lw_good_in (List.mem_append_right _ (List.mem_of_getElem? (i := 388) (by decide +kernel))) (by decide +kernel)
theorem seX0_becomeNew : Cond.selects mX0_becomeNew.1.cls mX0_becomeNew.1 mX0_becomeNew.1 ∈ lw_good := lw_good_in (List.mem_append_right _ (List.mem_of_getElem? (i := 389) (by decide +kernel))) (by decide +kernel)
theorem imX4_readStands : Cond.instanceMethod mX4_readStands.1 ∈ lw_good := lw_good_in (List.mem_append_right _ (List.mem_of_getElem? (i := 393) (by decide +kernel))) (by decide +kernel)
theorem imX1_has : Cond.instanceMethod mX1_has.1 ∈ lw_good := lw_good_in (List.mem_append_right _ (List.mem_of_getElem? (i := 396) (by decide +kernel))) (by decide +kernel)
theorem seX1_has : Cond.selects mX1_has.1.cls mX1_has.1 mX1_has.1 ∈ lw_good := lw_good_in (List.mem_append_right _ (List.mem_of_getElem? (i := 397) (by decide +kernel))) (by decide +kernel)
theorem imX4_faultPlace : Cond.instanceMethod mX4_faultPlace.1 ∈ lw_good := lw_good_in (List.mem_append_right _ (List.mem_of_getElem? (i := 400) (by decide +kernel))) (by decide +kernel)
theorem seX4_faultPlace : Cond.selects mX4_faultPlace.1.cls mX4_faultPlace.1 mX4_faultPlace.1 ∈ lw_good := lw_good_in (List.mem_append_right _ (List.mem_of_getElem? (i := 401) (by decide +kernel))) (by decide +kernel)
theorem imX3_remember : Cond.instanceMethod mX3_remember.1 ∈ lw_good := lw_good_in (List.mem_append_right _ (List.mem_of_getElem? (i := 404) (by decide +kernel))) (by decide +kernel)
theorem seX3_remember : Cond.selects mX3_remember.1.cls mX3_remember.1 mX3_remember.1 ∈ lw_good := lw_good_in (List.mem_append_right _ (List.mem_of_getElem? (i := 405) (by decide +kernel))) (by decide +kernel)
theorem imX1_copyFrom : Cond.instanceMethod mX1_copyFrom.1 ∈ lw_good := lw_good_in (List.mem_append_right _ (List.mem_of_getElem? (i := 408) (by decide +kernel))) (by decide +kernel)
theorem seX1_copyFrom : Cond.selects mX1_copyFrom.1.cls mX1_copyFrom.1 mX1_copyFrom.1 ∈ lw_good := lw_good_in (List.mem_append_right _ (List.mem_of_getElem? (i := 409) (by decide +kernel))) (by decide +kernel)
theorem imX0_copyFrom : Cond.instanceMethod mX0_copyFrom.1 ∈ lw_good := lw_good_in (List.mem_append_right _ (List.mem_of_getElem? (i := 412) (by decide +kernel))) (by decide +kernel)
theorem seX0_copyFrom : Cond.selects mX0_copyFrom.1.cls mX0_copyFrom.1 mX0_copyFrom.1 ∈ lw_good := lw_good_in (List.mem_append_right _ (List.mem_of_getElem? (i := 413) (by decide +kernel))) (by decide +kernel)
theorem ssJ9_min_7cf53 : Cond.static mJ9_min_7cf53.1 ∈ lw_good := lw_good_in (List.mem_append_right _ (List.mem_of_getElem? (i := 416) (by decide +kernel))) (by decide +kernel)
theorem imX8_fills : Cond.instanceMethod mX8_fills.1 ∈ lw_good := lw_good_in (List.mem_append_right _ (List.mem_of_getElem? (i := 421) (by decide +kernel))) (by decide +kernel)
theorem seX8_fills : Cond.selects mX8_fills.1.cls mX8_fills.1 mX8_fills.1 ∈ lw_good := lw_good_in (List.mem_append_right _ (List.mem_of_getElem? (i := 422) (by decide +kernel))) (by decide +kernel)
theorem imX8_roomIn : Cond.instanceMethod mX8_roomIn.1 ∈ lw_good := lw_good_in (List.mem_append_right _ (List.mem_of_getElem? (i := 427) (by decide +kernel))) (by decide +kernel)
theorem imX8_levelsOf : Cond.instanceMethod mX8_levelsOf.1 ∈ lw_good := lw_good_in (List.mem_append_right _ (List.mem_of_getElem? (i := 431) (by decide +kernel))) (by decide +kernel)
theorem imX8_lyingLevelsOf : Cond.instanceMethod mX8_lyingLevelsOf.1 ∈ lw_good := lw_good_in (List.mem_append_right _ (List.mem_of_getElem? (i := 435) (by decide +kernel))) (by decide +kernel)
theorem imX2_measure : Cond.instanceMethod mX2_measure.1 ∈ lw_good := lw_good_in (List.mem_append_right _ (List.mem_of_getElem? (i := 438) (by decide +kernel))) (by decide +kernel)
theorem seX2_measure : Cond.selects mX2_measure.1.cls mX2_measure.1 mX2_measure.1 ∈ lw_good := lw_good_in (List.mem_append_right _ (List.mem_of_getElem? (i := 439) (by decide +kernel))) (by decide +kernel)
theorem imX0_radiusOf : Cond.instanceMethod mX0_radiusOf.1 ∈ lw_good := lw_good_in (List.mem_append_right _ (List.mem_of_getElem? (i := 443) (by decide +kernel))) (by decide +kernel)
theorem seX0_radiusOf : Cond.selects mX0_radiusOf.1.cls mX0_radiusOf.1 mX0_radiusOf.1 ∈ lw_good := lw_good_in (List.mem_append_right _ (List.mem_of_getElem? (i := 444) (by decide +kernel))) (by decide +kernel)
theorem imX0_cellsOf : Cond.instanceMethod mX0_cellsOf.1 ∈ lw_good := lw_good_in (List.mem_append_right _ (List.mem_of_getElem? (i := 447) (by decide +kernel))) (by decide +kernel)
theorem seX0_cellsOf : Cond.selects mX0_cellsOf.1.cls mX0_cellsOf.1 mX0_cellsOf.1 ∈ lw_good := lw_good_in (List.mem_append_right _ (List.mem_of_getElem? (i := 448) (by decide +kernel))) (by decide +kernel)
theorem imX2_addAhead : Cond.instanceMethod mX2_addAhead.1 ∈ lw_good := lw_good_in (List.mem_append_right _ (List.mem_of_getElem? (i := 452) (by decide +kernel))) (by decide +kernel)
theorem imX2_reach : Cond.instanceMethod mX2_reach.1 ∈ lw_good := lw_good_in (List.mem_append_right _ (List.mem_of_getElem? (i := 455) (by decide +kernel))) (by decide +kernel)
theorem seX2_reach : Cond.selects mX2_reach.1.cls mX2_reach.1 mX2_reach.1 ∈ lw_good := lw_good_in (List.mem_append_right _ (List.mem_of_getElem? (i := 456) (by decide +kernel))) (by decide +kernel)
theorem imX2_hold : Cond.instanceMethod mX2_hold.1 ∈ lw_good := lw_good_in (List.mem_append_right _ (List.mem_of_getElem? (i := 459) (by decide +kernel))) (by decide +kernel)
theorem seX2_hold : Cond.selects mX2_hold.1.cls mX2_hold.1 mX2_hold.1 ∈ lw_good := lw_good_in (List.mem_append_right _ (List.mem_of_getElem? (i := 460) (by decide +kernel))) (by decide +kernel)
theorem imX2_amountAt : Cond.instanceMethod mX2_amountAt.1 ∈ lw_good := lw_good_in (List.mem_append_right _ (List.mem_of_getElem? (i := 463) (by decide +kernel))) (by decide +kernel)
theorem seX2_amountAt : Cond.selects mX2_amountAt.1.cls mX2_amountAt.1 mX2_amountAt.1 ∈ lw_good := lw_good_in (List.mem_append_right _ (List.mem_of_getElem? (i := 464) (by decide +kernel))) (by decide +kernel)
theorem imX0_takeIn : Cond.instanceMethod mX0_takeIn.1 ∈ lw_good := lw_good_in (List.mem_append_right _ (List.mem_of_getElem? (i := 467) (by decide +kernel))) (by decide +kernel)
theorem seX0_takeIn : Cond.selects mX0_takeIn.1.cls mX0_takeIn.1 mX0_takeIn.1 ∈ lw_good := lw_good_in (List.mem_append_right _ (List.mem_of_getElem? (i := 468) (by decide +kernel))) (by decide +kernel)
theorem imX8_draws : Cond.instanceMethod mX8_draws.1 ∈ lw_good := lw_good_in (List.mem_append_right _ (List.mem_of_getElem? (i := 471) (by decide +kernel))) (by decide +kernel)
theorem seX8_draws : Cond.selects mX8_draws.1.cls mX8_draws.1 mX8_draws.1 ∈ lw_good := lw_good_in (List.mem_append_right _ (List.mem_of_getElem? (i := 472) (by decide +kernel))) (by decide +kernel)
theorem imX0_giveOut : Cond.instanceMethod mX0_giveOut.1 ∈ lw_good := lw_good_in (List.mem_append_right _ (List.mem_of_getElem? (i := 475) (by decide +kernel))) (by decide +kernel)
theorem seX0_giveOut : Cond.selects mX0_giveOut.1.cls mX0_giveOut.1 mX0_giveOut.1 ∈ lw_good := lw_good_in (List.mem_append_right _ (List.mem_of_getElem? (i := 476) (by decide +kernel))) (by decide +kernel)
theorem imX8_pours : Cond.instanceMethod mX8_pours.1 ∈ lw_good := lw_good_in (List.mem_append_right _ (List.mem_of_getElem? (i := 479) (by decide +kernel))) (by decide +kernel)
theorem seX8_pours : Cond.selects mX8_pours.1.cls mX8_pours.1 mX8_pours.1 ∈ lw_good := lw_good_in (List.mem_append_right _ (List.mem_of_getElem? (i := 480) (by decide +kernel))) (by decide +kernel)
theorem imX8_turnsOver : Cond.instanceMethod mX8_turnsOver.1 ∈ lw_good := lw_good_in (List.mem_append_right _ (List.mem_of_getElem? (i := 483) (by decide +kernel))) (by decide +kernel)
theorem seX8_turnsOver : Cond.selects mX8_turnsOver.1.cls mX8_turnsOver.1 mX8_turnsOver.1 ∈ lw_good := lw_good_in (List.mem_append_right _ (List.mem_of_getElem? (i := 484) (by decide +kernel))) (by decide +kernel)
theorem imX8_undo : Cond.instanceMethod mX8_undo.1 ∈ lw_good := lw_good_in (List.mem_append_right _ (List.mem_of_getElem? (i := 487) (by decide +kernel))) (by decide +kernel)
theorem seX8_undo : Cond.selects mX8_undo.1.cls mX8_undo.1 mX8_undo.1 ∈ lw_good := lw_good_in (List.mem_append_right _ (List.mem_of_getElem? (i := 488) (by decide +kernel))) (by decide +kernel)
theorem imX3_recallInto : Cond.instanceMethod mX3_recallInto.1 ∈ lw_good := lw_good_in (List.mem_append_right _ (List.mem_of_getElem? (i := 491) (by decide +kernel))) (by decide +kernel)
theorem seX3_recallInto : Cond.selects mX3_recallInto.1.cls mX3_recallInto.1 mX3_recallInto.1 ∈ lw_good := lw_good_in (List.mem_append_right _ (List.mem_of_getElem? (i := 492) (by decide +kernel))) (by decide +kernel)
theorem imX8_cask : Cond.instanceMethod mX8_cask.1 ∈ lw_good := lw_good_in (List.mem_append_right _ (List.mem_of_getElem? (i := 495) (by decide +kernel))) (by decide +kernel)
theorem seX8_cask : Cond.selects mX8_cask.1.cls mX8_cask.1 mX8_cask.1 ∈ lw_good := lw_good_in (List.mem_append_right _ (List.mem_of_getElem? (i := 496) (by decide +kernel))) (by decide +kernel)
theorem imX2_leastDip : Cond.instanceMethod mX2_leastDip.1 ∈ lw_good := lw_good_in (List.mem_append_right _ (List.mem_of_getElem? (i := 499) (by decide +kernel))) (by decide +kernel)
theorem seX2_leastDip : Cond.selects mX2_leastDip.1.cls mX2_leastDip.1 mX2_leastDip.1 ∈ lw_good := lw_good_in (List.mem_append_right _ (List.mem_of_getElem? (i := 500) (by decide +kernel))) (by decide +kernel)
theorem imX2_leastDipFrom : Cond.instanceMethod mX2_leastDipFrom.1 ∈ lw_good := lw_good_in (List.mem_append_right _ (List.mem_of_getElem? (i := 503) (by decide +kernel))) (by decide +kernel)
theorem seX2_leastDipFrom : Cond.selects mX2_leastDipFrom.1.cls mX2_leastDipFrom.1 mX2_leastDipFrom.1 ∈ lw_good := lw_good_in (List.mem_append_right _ (List.mem_of_getElem? (i := 504) (by decide +kernel))) (by decide +kernel)
theorem ssJ9_max_7cf53 : Cond.static mJ9_max_7cf53.1 ∈ lw_good := lw_good_in (List.mem_append_right _ (List.mem_of_getElem? (i := 507) (by decide +kernel))) (by decide +kernel)
theorem imX0_strength : Cond.instanceMethod mX0_strength.1 ∈ lw_good := lw_good_in (List.mem_append_right _ (List.mem_of_getElem? (i := 510) (by decide +kernel))) (by decide +kernel)
theorem seX0_strength : Cond.selects mX0_strength.1.cls mX0_strength.1 mX0_strength.1 ∈ lw_good := lw_good_in (List.mem_append_right _ (List.mem_of_getElem? (i := 511) (by decide +kernel))) (by decide +kernel)
theorem ssX8_inThousandths : Cond.static mX8_inThousandths.1 ∈ lw_good := lw_good_in (List.mem_append_right _ (List.mem_of_getElem? (i := 514) (by decide +kernel))) (by decide +kernel)
theorem imX8_slice : Cond.instanceMethod mX8_slice.1 ∈ lw_good := lw_good_in (List.mem_append_right _ (List.mem_of_getElem? (i := 518) (by decide +kernel))) (by decide +kernel)
theorem seX8_slice : Cond.selects mX8_slice.1.cls mX8_slice.1 mX8_slice.1 ∈ lw_good := lw_good_in (List.mem_append_right _ (List.mem_of_getElem? (i := 519) (by decide +kernel))) (by decide +kernel)
theorem imX8_under : Cond.instanceMethod mX8_under.1 ∈ lw_good := lw_good_in (List.mem_append_right _ (List.mem_of_getElem? (i := 524) (by decide +kernel))) (by decide +kernel)
theorem seX8_under : Cond.selects mX8_under.1.cls mX8_under.1 mX8_under.1 ∈ lw_good := lw_good_in (List.mem_append_right _ (List.mem_of_getElem? (i := 525) (by decide +kernel))) (by decide +kernel)
theorem imX8_dip : Cond.instanceMethod mX8_dip.1 ∈ lw_good := lw_good_in (List.mem_append_right _ (List.mem_of_getElem? (i := 530) (by decide +kernel))) (by decide +kernel)
theorem seX8_dip : Cond.selects mX8_dip.1.cls mX8_dip.1 mX8_dip.1 ∈ lw_good := lw_good_in (List.mem_append_right _ (List.mem_of_getElem? (i := 531) (by decide +kernel))) (by decide +kernel)
theorem imX8_stick : Cond.instanceMethod mX8_stick.1 ∈ lw_good := lw_good_in (List.mem_append_right _ (List.mem_of_getElem? (i := 534) (by decide +kernel))) (by decide +kernel)
theorem seX8_stick : Cond.selects mX8_stick.1.cls mX8_stick.1 mX8_stick.1 ∈ lw_good := lw_good_in (List.mem_append_right _ (List.mem_of_getElem? (i := 535) (by decide +kernel))) (by decide +kernel)
theorem imX2_markAt : Cond.instanceMethod mX2_markAt.1 ∈ lw_good := lw_good_in (List.mem_append_right _ (List.mem_of_getElem? (i := 538) (by decide +kernel))) (by decide +kernel)
theorem seX2_markAt : Cond.selects mX2_markAt.1.cls mX2_markAt.1 mX2_markAt.1 ∈ lw_good := lw_good_in (List.mem_append_right _ (List.mem_of_getElem? (i := 539) (by decide +kernel))) (by decide +kernel)
theorem imX8_known : Cond.instanceMethod mX8_known.1 ∈ lw_good := lw_good_in (List.mem_append_right _ (List.mem_of_getElem? (i := 543) (by decide +kernel))) (by decide +kernel)
theorem seX8_known : Cond.selects mX8_known.1.cls mX8_known.1 mX8_known.1 ∈ lw_good := lw_good_in (List.mem_append_right _ (List.mem_of_getElem? (i := 544) (by decide +kernel))) (by decide +kernel)
theorem imX8_shares : Cond.instanceMethod mX8_shares.1 ∈ lw_good := lw_good_in (List.mem_append_right _ (List.mem_of_getElem? (i := 547) (by decide +kernel))) (by decide +kernel)
theorem seX8_shares : Cond.selects mX8_shares.1.cls mX8_shares.1 mX8_shares.1 ∈ lw_good := lw_good_in (List.mem_append_right _ (List.mem_of_getElem? (i := 548) (by decide +kernel))) (by decide +kernel)
theorem imX5_findFairest : Cond.instanceMethod mX5_findFairest.1 ∈ lw_good := lw_good_in (List.mem_append_right _ (List.mem_of_getElem? (i := 551) (by decide +kernel))) (by decide +kernel)
theorem seX5_findFairest : Cond.selects mX5_findFairest.1.cls mX5_findFairest.1 mX5_findFairest.1 ∈ lw_good := lw_good_in (List.mem_append_right _ (List.mem_of_getElem? (i := 552) (by decide +kernel))) (by decide +kernel)
theorem imX5_weigh : Cond.instanceMethod mX5_weigh.1 ∈ lw_good := lw_good_in (List.mem_append_right _ (List.mem_of_getElem? (i := 558) (by decide +kernel))) (by decide +kernel)
theorem imX8_all : Cond.instanceMethod mX8_all.1 ∈ lw_good := lw_good_in (List.mem_append_right _ (List.mem_of_getElem? (i := 563) (by decide +kernel))) (by decide +kernel)
theorem seX8_all : Cond.selects mX8_all.1.cls mX8_all.1 mX8_all.1 ∈ lw_good := lw_good_in (List.mem_append_right _ (List.mem_of_getElem? (i := 564) (by decide +kernel))) (by decide +kernel)
theorem imX1_strongest : Cond.instanceMethod mX1_strongest.1 ∈ lw_good := lw_good_in (List.mem_append_right _ (List.mem_of_getElem? (i := 567) (by decide +kernel))) (by decide +kernel)
theorem seX1_strongest : Cond.selects mX1_strongest.1.cls mX1_strongest.1 mX1_strongest.1 ∈ lw_good := lw_good_in (List.mem_append_right _ (List.mem_of_getElem? (i := 568) (by decide +kernel))) (by decide +kernel)
theorem imX1_meanStrength : Cond.instanceMethod mX1_meanStrength.1 ∈ lw_good := lw_good_in (List.mem_append_right _ (List.mem_of_getElem? (i := 572) (by decide +kernel))) (by decide +kernel)
theorem seX1_meanStrength : Cond.selects mX1_meanStrength.1.cls mX1_meanStrength.1 mX1_meanStrength.1 ∈ lw_good := lw_good_in (List.mem_append_right _ (List.mem_of_getElem? (i := 573) (by decide +kernel))) (by decide +kernel)
theorem imX8_sees : Cond.instanceMethod mX8_sees.1 ∈ lw_good := lw_good_in (List.mem_append_right _ (List.mem_of_getElem? (i := 576) (by decide +kernel))) (by decide +kernel)
theorem seX8_sees : Cond.selects mX8_sees.1.cls mX8_sees.1 mX8_sees.1 ∈ lw_good := lw_good_in (List.mem_append_right _ (List.mem_of_getElem? (i := 577) (by decide +kernel))) (by decide +kernel)
theorem imX6_add : Cond.instanceMethod mX6_add.1 ∈ lw_good := lw_good_in (List.mem_append_right _ (List.mem_of_getElem? (i := 581) (by decide +kernel))) (by decide +kernel)
theorem seX6_add : Cond.selects mX6_add.1.cls mX6_add.1 mX6_add.1 ∈ lw_good := lw_good_in (List.mem_append_right _ (List.mem_of_getElem? (i := 582) (by decide +kernel))) (by decide +kernel)
theorem imX8_forget : Cond.instanceMethod mX8_forget.1 ∈ lw_good := lw_good_in (List.mem_append_right _ (List.mem_of_getElem? (i := 585) (by decide +kernel))) (by decide +kernel)
theorem seX8_forget : Cond.selects mX8_forget.1.cls mX8_forget.1 mX8_forget.1 ∈ lw_good := lw_good_in (List.mem_append_right _ (List.mem_of_getElem? (i := 586) (by decide +kernel))) (by decide +kernel)
theorem imX8_which : Cond.instanceMethod mX8_which.1 ∈ lw_good := lw_good_in (List.mem_append_right _ (List.mem_of_getElem? (i := 589) (by decide +kernel))) (by decide +kernel)
theorem seX8_which : Cond.selects mX8_which.1.cls mX8_which.1 mX8_which.1 ∈ lw_good := lw_good_in (List.mem_append_right _ (List.mem_of_getElem? (i := 590) (by decide +kernel))) (by decide +kernel)
theorem imX6_fits : Cond.instanceMethod mX6_fits.1 ∈ lw_good := lw_good_in (List.mem_append_right _ (List.mem_of_getElem? (i := 593) (by decide +kernel))) (by decide +kernel)
theorem seX6_fits : Cond.selects mX6_fits.1.cls mX6_fits.1 mX6_fits.1 ∈ lw_good := lw_good_in (List.mem_append_right _ (List.mem_of_getElem? (i := 594) (by decide +kernel))) (by decide +kernel)
theorem imX8_ask : Cond.instanceMethod mX8_ask.1 ∈ lw_good := lw_good_in (List.mem_append_right _ (List.mem_of_getElem? (i := 598) (by decide +kernel))) (by decide +kernel)
theorem seX8_ask : Cond.selects mX8_ask.1.cls mX8_ask.1 mX8_ask.1 ∈ lw_good := lw_good_in (List.mem_append_right _ (List.mem_of_getElem? (i := 599) (by decide +kernel))) (by decide +kernel)
theorem ssJ6_bitCount_0f7a4 : Cond.static mJ6_bitCount_0f7a4.1 ∈ lw_good := lw_good_in (List.mem_append_right _ (List.mem_of_getElem? (i := 603) (by decide +kernel))) (by decide +kernel)
theorem imX8_startAsking : Cond.instanceMethod mX8_startAsking.1 ∈ lw_good := lw_good_in (List.mem_append_right _ (List.mem_of_getElem? (i := 610) (by decide +kernel))) (by decide +kernel)
theorem imX8_mostAlike : Cond.instanceMethod mX8_mostAlike.1 ∈ lw_good := lw_good_in (List.mem_append_right _ (List.mem_of_getElem? (i := 614) (by decide +kernel))) (by decide +kernel)
theorem imX8_raiseAskedDips : Cond.instanceMethod mX8_raiseAskedDips.1 ∈ lw_good := lw_good_in (List.mem_append_right _ (List.mem_of_getElem? (i := 619) (by decide +kernel))) (by decide +kernel)
theorem imX8_keep : Cond.instanceMethod mX8_keep.1 ∈ lw_good := lw_good_in (List.mem_append_right _ (List.mem_of_getElem? (i := 623) (by decide +kernel))) (by decide +kernel)
theorem seX8_keep : Cond.selects mX8_keep.1.cls mX8_keep.1 mX8_keep.1 ∈ lw_good := lw_good_in (List.mem_append_right _ (List.mem_of_getElem? (i := 624) (by decide +kernel))) (by decide +kernel)
theorem imX8_back : Cond.instanceMethod mX8_back.1 ∈ lw_good := lw_good_in (List.mem_append_right _ (List.mem_of_getElem? (i := 627) (by decide +kernel))) (by decide +kernel)
theorem seX8_back : Cond.selects mX8_back.1.cls mX8_back.1 mX8_back.1 ∈ lw_good := lw_good_in (List.mem_append_right _ (List.mem_of_getElem? (i := 628) (by decide +kernel))) (by decide +kernel)
theorem imX8_count : Cond.instanceMethod mX8_count.1 ∈ lw_good := lw_good_in (List.mem_append_right _ (List.mem_of_getElem? (i := 631) (by decide +kernel))) (by decide +kernel)
theorem seX8_count : Cond.selects mX8_count.1.cls mX8_count.1 mX8_count.1 ∈ lw_good := lw_good_in (List.mem_append_right _ (List.mem_of_getElem? (i := 632) (by decide +kernel))) (by decide +kernel)
theorem imX1_allWine : Cond.instanceMethod mX1_allWine.1 ∈ lw_good := lw_good_in (List.mem_append_right _ (List.mem_of_getElem? (i := 635) (by decide +kernel))) (by decide +kernel)
theorem seX1_allWine : Cond.selects mX1_allWine.1.cls mX1_allWine.1 mX1_allWine.1 ∈ lw_good := lw_good_in (List.mem_append_right _ (List.mem_of_getElem? (i := 636) (by decide +kernel))) (by decide +kernel)
theorem imX1_allSpirit : Cond.instanceMethod mX1_allSpirit.1 ∈ lw_good := lw_good_in (List.mem_append_right _ (List.mem_of_getElem? (i := 639) (by decide +kernel))) (by decide +kernel)
theorem seX1_allSpirit : Cond.selects mX1_allSpirit.1.cls mX1_allSpirit.1 mX1_allSpirit.1 ∈ lw_good := lw_good_in (List.mem_append_right _ (List.mem_of_getElem? (i := 640) (by decide +kernel))) (by decide +kernel)
theorem imX9_init : Cond.instanceMethod mX9_init.1 ∈ lw_good := lw_good_in (List.mem_append_right _ (List.mem_of_getElem? (i := 645) (by decide +kernel))) (by decide +kernel)
theorem imX9_type : Cond.instanceMethod mX9_type.1 ∈ lw_good := lw_good_in (List.mem_append_right _ (List.mem_of_getElem? (i := 713) (by decide +kernel))) (by decide +kernel)
theorem seX9_type : Cond.selects mX9_type.1.cls mX9_type.1 mX9_type.1 ∈ lw_good := lw_good_in (List.mem_append_right _ (List.mem_of_getElem? (i := 714) (by decide +kernel))) (by decide +kernel)
theorem ssX9_in : Cond.static mX9_in.1 ∈ lw_good := lw_good_in (List.mem_append_right _ (List.mem_of_getElem? (i := 717) (by decide +kernel))) (by decide +kernel)
theorem imX9_clear : Cond.instanceMethod mX9_clear.1 ∈ lw_good := lw_good_in (List.mem_append_right _ (List.mem_of_getElem? (i := 720) (by decide +kernel))) (by decide +kernel)
theorem seX9_clear : Cond.selects mX9_clear.1.cls mX9_clear.1 mX9_clear.1 ∈ lw_good := lw_good_in (List.mem_append_right _ (List.mem_of_getElem? (i := 721) (by decide +kernel))) (by decide +kernel)
theorem imX9_tells : Cond.instanceMethod mX9_tells.1 ∈ lw_good := lw_good_in (List.mem_append_right _ (List.mem_of_getElem? (i := 724) (by decide +kernel))) (by decide +kernel)
theorem seX9_tells : Cond.selects mX9_tells.1.cls mX9_tells.1 mX9_tells.1 ∈ lw_good := lw_good_in (List.mem_append_right _ (List.mem_of_getElem? (i := 725) (by decide +kernel))) (by decide +kernel)
theorem imX9_reads : Cond.instanceMethod mX9_reads.1 ∈ lw_good := lw_good_in (List.mem_append_right _ (List.mem_of_getElem? (i := 729) (by decide +kernel))) (by decide +kernel)
theorem imX9_steps : Cond.instanceMethod mX9_steps.1 ∈ lw_good := lw_good_in (List.mem_append_right _ (List.mem_of_getElem? (i := 733) (by decide +kernel))) (by decide +kernel)
theorem imX9_at : Cond.instanceMethod mX9_at.1 ∈ lw_good := lw_good_in (List.mem_append_right _ (List.mem_of_getElem? (i := 737) (by decide +kernel))) (by decide +kernel)
theorem imX9_takesFigures : Cond.instanceMethod mX9_takesFigures.1 ∈ lw_good := lw_good_in (List.mem_append_right _ (List.mem_of_getElem? (i := 741) (by decide +kernel))) (by decide +kernel)
theorem imX9_isCaskWord : Cond.instanceMethod mX9_isCaskWord.1 ∈ lw_good := lw_good_in (List.mem_append_right _ (List.mem_of_getElem? (i := 745) (by decide +kernel))) (by decide +kernel)
theorem imX9_isStandsWord : Cond.instanceMethod mX9_isStandsWord.1 ∈ lw_good := lw_good_in (List.mem_append_right _ (List.mem_of_getElem? (i := 749) (by decide +kernel))) (by decide +kernel)
theorem imX9_readsCask : Cond.instanceMethod mX9_readsCask.1 ∈ lw_good := lw_good_in (List.mem_append_right _ (List.mem_of_getElem? (i := 753) (by decide +kernel))) (by decide +kernel)
theorem imX9_takes : Cond.instanceMethod mX9_takes.1 ∈ lw_good := lw_good_in (List.mem_append_right _ (List.mem_of_getElem? (i := 757) (by decide +kernel))) (by decide +kernel)
theorem imX9_numberIn : Cond.instanceMethod mX9_numberIn.1 ∈ lw_good := lw_good_in (List.mem_append_right _ (List.mem_of_getElem? (i := 761) (by decide +kernel))) (by decide +kernel)
theorem imX9_readsStands : Cond.instanceMethod mX9_readsStands.1 ∈ lw_good := lw_good_in (List.mem_append_right _ (List.mem_of_getElem? (i := 765) (by decide +kernel))) (by decide +kernel)
theorem imX9_notes : Cond.instanceMethod mX9_notes.1 ∈ lw_good := lw_good_in (List.mem_append_right _ (List.mem_of_getElem? (i := 769) (by decide +kernel))) (by decide +kernel)
theorem imX9_fills : Cond.instanceMethod mX9_fills.1 ∈ lw_good := lw_good_in (List.mem_append_right _ (List.mem_of_getElem? (i := 772) (by decide +kernel))) (by decide +kernel)
theorem seX9_fills : Cond.selects mX9_fills.1.cls mX9_fills.1 mX9_fills.1 ∈ lw_good := lw_good_in (List.mem_append_right _ (List.mem_of_getElem? (i := 773) (by decide +kernel))) (by decide +kernel)
theorem imX9_isCask : Cond.instanceMethod mX9_isCask.1 ∈ lw_good := lw_good_in (List.mem_append_right _ (List.mem_of_getElem? (i := 777) (by decide +kernel))) (by decide +kernel)
theorem imX9_hold : Cond.instanceMethod mX9_hold.1 ∈ lw_good := lw_good_in (List.mem_append_right _ (List.mem_of_getElem? (i := 781) (by decide +kernel))) (by decide +kernel)
theorem imX9_laysNow : Cond.instanceMethod mX9_laysNow.1 ∈ lw_good := lw_good_in (List.mem_append_right _ (List.mem_of_getElem? (i := 785) (by decide +kernel))) (by decide +kernel)
theorem imX9_of : Cond.instanceMethod mX9_of.1 ∈ lw_good := lw_good_in (List.mem_append_right _ (List.mem_of_getElem? (i := 789) (by decide +kernel))) (by decide +kernel)
theorem imX9_lays : Cond.instanceMethod mX9_lays.1 ∈ lw_good := lw_good_in (List.mem_append_right _ (List.mem_of_getElem? (i := 793) (by decide +kernel))) (by decide +kernel)
theorem imX9_cellsOf : Cond.instanceMethod mX9_cellsOf.1 ∈ lw_good := lw_good_in (List.mem_append_right _ (List.mem_of_getElem? (i := 797) (by decide +kernel))) (by decide +kernel)
theorem imX9_radius : Cond.instanceMethod mX9_radius.1 ∈ lw_good := lw_good_in (List.mem_append_right _ (List.mem_of_getElem? (i := 801) (by decide +kernel))) (by decide +kernel)
theorem imX9_draws : Cond.instanceMethod mX9_draws.1 ∈ lw_good := lw_good_in (List.mem_append_right _ (List.mem_of_getElem? (i := 804) (by decide +kernel))) (by decide +kernel)
theorem seX9_draws : Cond.selects mX9_draws.1.cls mX9_draws.1 mX9_draws.1 ∈ lw_good := lw_good_in (List.mem_append_right _ (List.mem_of_getElem? (i := 805) (by decide +kernel))) (by decide +kernel)
theorem imX9_goes : Cond.instanceMethod mX9_goes.1 ∈ lw_good := lw_good_in (List.mem_append_right _ (List.mem_of_getElem? (i := 809) (by decide +kernel))) (by decide +kernel)
theorem imX9_pours : Cond.instanceMethod mX9_pours.1 ∈ lw_good := lw_good_in (List.mem_append_right _ (List.mem_of_getElem? (i := 812) (by decide +kernel))) (by decide +kernel)
theorem seX9_pours : Cond.selects mX9_pours.1.cls mX9_pours.1 mX9_pours.1 ∈ lw_good := lw_good_in (List.mem_append_right _ (List.mem_of_getElem? (i := 813) (by decide +kernel))) (by decide +kernel)
theorem imX9_turnsOver : Cond.instanceMethod mX9_turnsOver.1 ∈ lw_good := lw_good_in (List.mem_append_right _ (List.mem_of_getElem? (i := 816) (by decide +kernel))) (by decide +kernel)
theorem seX9_turnsOver : Cond.selects mX9_turnsOver.1.cls mX9_turnsOver.1 mX9_turnsOver.1 ∈ lw_good := lw_good_in (List.mem_append_right _ (List.mem_of_getElem? (i := 817) (by decide +kernel))) (by decide +kernel)
theorem imX9_undo : Cond.instanceMethod mX9_undo.1 ∈ lw_good := lw_good_in (List.mem_append_right _ (List.mem_of_getElem? (i := 820) (by decide +kernel))) (by decide +kernel)
theorem seX9_undo : Cond.selects mX9_undo.1.cls mX9_undo.1 mX9_undo.1 ∈ lw_good := lw_good_in (List.mem_append_right _ (List.mem_of_getElem? (i := 821) (by decide +kernel))) (by decide +kernel)
theorem imX9_cask : Cond.instanceMethod mX9_cask.1 ∈ lw_good := lw_good_in (List.mem_append_right _ (List.mem_of_getElem? (i := 824) (by decide +kernel))) (by decide +kernel)
theorem seX9_cask : Cond.selects mX9_cask.1.cls mX9_cask.1 mX9_cask.1 ∈ lw_good := lw_good_in (List.mem_append_right _ (List.mem_of_getElem? (i := 825) (by decide +kernel))) (by decide +kernel)
theorem imX9_dipOf : Cond.instanceMethod mX9_dipOf.1 ∈ lw_good := lw_good_in (List.mem_append_right _ (List.mem_of_getElem? (i := 829) (by decide +kernel))) (by decide +kernel)
theorem imX9_strength : Cond.instanceMethod mX9_strength.1 ∈ lw_good := lw_good_in (List.mem_append_right _ (List.mem_of_getElem? (i := 834) (by decide +kernel))) (by decide +kernel)
theorem imX9_slice : Cond.instanceMethod mX9_slice.1 ∈ lw_good := lw_good_in (List.mem_append_right _ (List.mem_of_getElem? (i := 837) (by decide +kernel))) (by decide +kernel)
theorem seX9_slice : Cond.selects mX9_slice.1.cls mX9_slice.1 mX9_slice.1 ∈ lw_good := lw_good_in (List.mem_append_right _ (List.mem_of_getElem? (i := 838) (by decide +kernel))) (by decide +kernel)
theorem imX9_under : Cond.instanceMethod mX9_under.1 ∈ lw_good := lw_good_in (List.mem_append_right _ (List.mem_of_getElem? (i := 841) (by decide +kernel))) (by decide +kernel)
theorem seX9_under : Cond.selects mX9_under.1.cls mX9_under.1 mX9_under.1 ∈ lw_good := lw_good_in (List.mem_append_right _ (List.mem_of_getElem? (i := 842) (by decide +kernel))) (by decide +kernel)
theorem imX9_isHeight : Cond.instanceMethod mX9_isHeight.1 ∈ lw_good := lw_good_in (List.mem_append_right _ (List.mem_of_getElem? (i := 846) (by decide +kernel))) (by decide +kernel)
theorem imX9_dip : Cond.instanceMethod mX9_dip.1 ∈ lw_good := lw_good_in (List.mem_append_right _ (List.mem_of_getElem? (i := 849) (by decide +kernel))) (by decide +kernel)
theorem seX9_dip : Cond.selects mX9_dip.1.cls mX9_dip.1 mX9_dip.1 ∈ lw_good := lw_good_in (List.mem_append_right _ (List.mem_of_getElem? (i := 850) (by decide +kernel))) (by decide +kernel)
theorem imX9_stick : Cond.instanceMethod mX9_stick.1 ∈ lw_good := lw_good_in (List.mem_append_right _ (List.mem_of_getElem? (i := 853) (by decide +kernel))) (by decide +kernel)
theorem seX9_stick : Cond.selects mX9_stick.1.cls mX9_stick.1 mX9_stick.1 ∈ lw_good := lw_good_in (List.mem_append_right _ (List.mem_of_getElem? (i := 854) (by decide +kernel))) (by decide +kernel)
theorem imX9_known : Cond.instanceMethod mX9_known.1 ∈ lw_good := lw_good_in (List.mem_append_right _ (List.mem_of_getElem? (i := 857) (by decide +kernel))) (by decide +kernel)
theorem seX9_known : Cond.selects mX9_known.1.cls mX9_known.1 mX9_known.1 ∈ lw_good := lw_good_in (List.mem_append_right _ (List.mem_of_getElem? (i := 858) (by decide +kernel))) (by decide +kernel)
theorem imX9_shares : Cond.instanceMethod mX9_shares.1 ∈ lw_good := lw_good_in (List.mem_append_right _ (List.mem_of_getElem? (i := 861) (by decide +kernel))) (by decide +kernel)
theorem seX9_shares : Cond.selects mX9_shares.1.cls mX9_shares.1 mX9_shares.1 ∈ lw_good := lw_good_in (List.mem_append_right _ (List.mem_of_getElem? (i := 862) (by decide +kernel))) (by decide +kernel)
theorem imX9_mostBy : Cond.instanceMethod mX9_mostBy.1 ∈ lw_good := lw_good_in (List.mem_append_right _ (List.mem_of_getElem? (i := 866) (by decide +kernel))) (by decide +kernel)
theorem imX9_all : Cond.instanceMethod mX9_all.1 ∈ lw_good := lw_good_in (List.mem_append_right _ (List.mem_of_getElem? (i := 869) (by decide +kernel))) (by decide +kernel)
theorem seX9_all : Cond.selects mX9_all.1.cls mX9_all.1 mX9_all.1 ∈ lw_good := lw_good_in (List.mem_append_right _ (List.mem_of_getElem? (i := 870) (by decide +kernel))) (by decide +kernel)
theorem imX9_strongest : Cond.instanceMethod mX9_strongest.1 ∈ lw_good := lw_good_in (List.mem_append_right _ (List.mem_of_getElem? (i := 874) (by decide +kernel))) (by decide +kernel)
theorem imX9_mean : Cond.instanceMethod mX9_mean.1 ∈ lw_good := lw_good_in (List.mem_append_right _ (List.mem_of_getElem? (i := 878) (by decide +kernel))) (by decide +kernel)
theorem imX9_sees : Cond.instanceMethod mX9_sees.1 ∈ lw_good := lw_good_in (List.mem_append_right _ (List.mem_of_getElem? (i := 881) (by decide +kernel))) (by decide +kernel)
theorem seX9_sees : Cond.selects mX9_sees.1.cls mX9_sees.1 mX9_sees.1 ∈ lw_good := lw_good_in (List.mem_append_right _ (List.mem_of_getElem? (i := 882) (by decide +kernel))) (by decide +kernel)
theorem imX9_forget : Cond.instanceMethod mX9_forget.1 ∈ lw_good := lw_good_in (List.mem_append_right _ (List.mem_of_getElem? (i := 886) (by decide +kernel))) (by decide +kernel)
theorem seX9_forget : Cond.selects mX9_forget.1.cls mX9_forget.1 mX9_forget.1 ∈ lw_good := lw_good_in (List.mem_append_right _ (List.mem_of_getElem? (i := 887) (by decide +kernel))) (by decide +kernel)
theorem imX9_which : Cond.instanceMethod mX9_which.1 ∈ lw_good := lw_good_in (List.mem_append_right _ (List.mem_of_getElem? (i := 890) (by decide +kernel))) (by decide +kernel)
theorem seX9_which : Cond.selects mX9_which.1.cls mX9_which.1 mX9_which.1 ∈ lw_good := lw_good_in (List.mem_append_right _ (List.mem_of_getElem? (i := 891) (by decide +kernel))) (by decide +kernel)
theorem imX9_suspects : Cond.instanceMethod mX9_suspects.1 ∈ lw_good := lw_good_in (List.mem_append_right _ (List.mem_of_getElem? (i := 895) (by decide +kernel))) (by decide +kernel)
theorem imX9_ask : Cond.instanceMethod mX9_ask.1 ∈ lw_good := lw_good_in (List.mem_append_right _ (List.mem_of_getElem? (i := 898) (by decide +kernel))) (by decide +kernel)
theorem seX9_ask : Cond.selects mX9_ask.1.cls mX9_ask.1 mX9_ask.1 ∈ lw_good := lw_good_in (List.mem_append_right _ (List.mem_of_getElem? (i := 899) (by decide +kernel))) (by decide +kernel)
theorem imX9_laysDips : Cond.instanceMethod mX9_laysDips.1 ∈ lw_good := lw_good_in (List.mem_append_right _ (List.mem_of_getElem? (i := 903) (by decide +kernel))) (by decide +kernel)
theorem imX9_alike : Cond.instanceMethod mX9_alike.1 ∈ lw_good := lw_good_in (List.mem_append_right _ (List.mem_of_getElem? (i := 907) (by decide +kernel))) (by decide +kernel)
theorem imX9_keep : Cond.instanceMethod mX9_keep.1 ∈ lw_good := lw_good_in (List.mem_append_right _ (List.mem_of_getElem? (i := 910) (by decide +kernel))) (by decide +kernel)
theorem seX9_keep : Cond.selects mX9_keep.1.cls mX9_keep.1 mX9_keep.1 ∈ lw_good := lw_good_in (List.mem_append_right _ (List.mem_of_getElem? (i := 911) (by decide +kernel))) (by decide +kernel)
theorem imX9_back : Cond.instanceMethod mX9_back.1 ∈ lw_good := lw_good_in (List.mem_append_right _ (List.mem_of_getElem? (i := 914) (by decide +kernel))) (by decide +kernel)
theorem seX9_back : Cond.selects mX9_back.1.cls mX9_back.1 mX9_back.1 ∈ lw_good := lw_good_in (List.mem_append_right _ (List.mem_of_getElem? (i := 915) (by decide +kernel))) (by decide +kernel)
theorem imX9_count : Cond.instanceMethod mX9_count.1 ∈ lw_good := lw_good_in (List.mem_append_right _ (List.mem_of_getElem? (i := 918) (by decide +kernel))) (by decide +kernel)
theorem seX9_count : Cond.selects mX9_count.1.cls mX9_count.1 mX9_count.1 ∈ lw_good := lw_good_in (List.mem_append_right _ (List.mem_of_getElem? (i := 919) (by decide +kernel))) (by decide +kernel)
theorem imX9_sum : Cond.instanceMethod mX9_sum.1 ∈ lw_good := lw_good_in (List.mem_append_right _ (List.mem_of_getElem? (i := 923) (by decide +kernel))) (by decide +kernel)
theorem seX7_goesOn : Cond.selects mX7_goesOn.1.cls mX7_goesOn.1 mX7_goesOn.1 ∈ lw_good := lw_good_in (List.mem_append_left _ (List.mem_of_getElem? (i := 0) (by decide +kernel))) (by decide +kernel)
theorem seX7_putKind : Cond.selects mX7_putKind.1.cls mX7_putKind.1 mX7_putKind.1 ∈ lw_good := lw_good_in (List.mem_append_left _ (List.mem_of_getElem? (i := 1) (by decide +kernel))) (by decide +kernel)
theorem seX7_kindOfWord : Cond.selects mX7_kindOfWord.1.cls mX7_kindOfWord.1 mX7_kindOfWord.1 ∈ lw_good := lw_good_in (List.mem_append_left _ (List.mem_of_getElem? (i := 2) (by decide +kernel))) (by decide +kernel)
theorem seX7_isWord : Cond.selects mX7_isWord.1.cls mX7_isWord.1 mX7_isWord.1 ∈ lw_good := lw_good_in (List.mem_append_left _ (List.mem_of_getElem? (i := 3) (by decide +kernel))) (by decide +kernel)
theorem seX7_kindOfNumber : Cond.selects mX7_kindOfNumber.1.cls mX7_kindOfNumber.1 mX7_kindOfNumber.1 ∈ lw_good := lw_good_in (List.mem_append_left _ (List.mem_of_getElem? (i := 4) (by decide +kernel))) (by decide +kernel)
theorem seX7_valueOf : Cond.selects mX7_valueOf.1.cls mX7_valueOf.1 mX7_valueOf.1 ∈ lw_good := lw_good_in (List.mem_append_left _ (List.mem_of_getElem? (i := 5) (by decide +kernel))) (by decide +kernel)
theorem seX4_readItem : Cond.selects mX4_readItem.1.cls mX4_readItem.1 mX4_readItem.1 ∈ lw_good := lw_good_in (List.mem_append_left _ (List.mem_of_getElem? (i := 6) (by decide +kernel))) (by decide +kernel)
theorem seX4_readCask : Cond.selects mX4_readCask.1.cls mX4_readCask.1 mX4_readCask.1 ∈ lw_good := lw_good_in (List.mem_append_left _ (List.mem_of_getElem? (i := 7) (by decide +kernel))) (by decide +kernel)
theorem seX4_readNumber : Cond.selects mX4_readNumber.1.cls mX4_readNumber.1 mX4_readNumber.1 ∈ lw_good := lw_good_in (List.mem_append_left _ (List.mem_of_getElem? (i := 8) (by decide +kernel))) (by decide +kernel)
theorem seX4_step : Cond.selects mX4_step.1.cls mX4_step.1 mX4_step.1 ∈ lw_good := lw_good_in (List.mem_append_left _ (List.mem_of_getElem? (i := 9) (by decide +kernel))) (by decide +kernel)
theorem seX4_readItemEnd : Cond.selects mX4_readItemEnd.1.cls mX4_readItemEnd.1 mX4_readItemEnd.1 ∈ lw_good := lw_good_in (List.mem_append_left _ (List.mem_of_getElem? (i := 10) (by decide +kernel))) (by decide +kernel)
theorem seX4_readStands : Cond.selects mX4_readStands.1.cls mX4_readStands.1 mX4_readStands.1 ∈ lw_good := lw_good_in (List.mem_append_left _ (List.mem_of_getElem? (i := 11) (by decide +kernel))) (by decide +kernel)
theorem seX8_roomIn : Cond.selects mX8_roomIn.1.cls mX8_roomIn.1 mX8_roomIn.1 ∈ lw_good := lw_good_in (List.mem_append_left _ (List.mem_of_getElem? (i := 12) (by decide +kernel))) (by decide +kernel)
theorem seX8_levelsOf : Cond.selects mX8_levelsOf.1.cls mX8_levelsOf.1 mX8_levelsOf.1 ∈ lw_good := lw_good_in (List.mem_append_left _ (List.mem_of_getElem? (i := 13) (by decide +kernel))) (by decide +kernel)
theorem seX8_lyingLevelsOf : Cond.selects mX8_lyingLevelsOf.1.cls mX8_lyingLevelsOf.1 mX8_lyingLevelsOf.1 ∈ lw_good := lw_good_in (List.mem_append_left _ (List.mem_of_getElem? (i := 14) (by decide +kernel))) (by decide +kernel)
theorem seX2_addAhead : Cond.selects mX2_addAhead.1.cls mX2_addAhead.1 mX2_addAhead.1 ∈ lw_good := lw_good_in (List.mem_append_left _ (List.mem_of_getElem? (i := 15) (by decide +kernel))) (by decide +kernel)
theorem seX5_weigh : Cond.selects mX5_weigh.1.cls mX5_weigh.1 mX5_weigh.1 ∈ lw_good := lw_good_in (List.mem_append_left _ (List.mem_of_getElem? (i := 16) (by decide +kernel))) (by decide +kernel)
theorem seX8_startAsking : Cond.selects mX8_startAsking.1.cls mX8_startAsking.1 mX8_startAsking.1 ∈ lw_good := lw_good_in (List.mem_append_left _ (List.mem_of_getElem? (i := 17) (by decide +kernel))) (by decide +kernel)
theorem seX8_mostAlike : Cond.selects mX8_mostAlike.1.cls mX8_mostAlike.1 mX8_mostAlike.1 ∈ lw_good := lw_good_in (List.mem_append_left _ (List.mem_of_getElem? (i := 18) (by decide +kernel))) (by decide +kernel)
theorem seX8_raiseAskedDips : Cond.selects mX8_raiseAskedDips.1.cls mX8_raiseAskedDips.1 mX8_raiseAskedDips.1 ∈ lw_good := lw_good_in (List.mem_append_left _ (List.mem_of_getElem? (i := 19) (by decide +kernel))) (by decide +kernel)
theorem seX9_reads : Cond.selects mX9_reads.1.cls mX9_reads.1 mX9_reads.1 ∈ lw_good := lw_good_in (List.mem_append_left _ (List.mem_of_getElem? (i := 20) (by decide +kernel))) (by decide +kernel)
theorem seX9_steps : Cond.selects mX9_steps.1.cls mX9_steps.1 mX9_steps.1 ∈ lw_good := lw_good_in (List.mem_append_left _ (List.mem_of_getElem? (i := 21) (by decide +kernel))) (by decide +kernel)
theorem seX9_at : Cond.selects mX9_at.1.cls mX9_at.1 mX9_at.1 ∈ lw_good := lw_good_in (List.mem_append_left _ (List.mem_of_getElem? (i := 22) (by decide +kernel))) (by decide +kernel)
theorem seX9_takesFigures : Cond.selects mX9_takesFigures.1.cls mX9_takesFigures.1 mX9_takesFigures.1 ∈ lw_good := lw_good_in (List.mem_append_left _ (List.mem_of_getElem? (i := 23) (by decide +kernel))) (by decide +kernel)
theorem seX9_isCaskWord : Cond.selects mX9_isCaskWord.1.cls mX9_isCaskWord.1 mX9_isCaskWord.1 ∈ lw_good := lw_good_in (List.mem_append_left _ (List.mem_of_getElem? (i := 24) (by decide +kernel))) (by decide +kernel)
theorem seX9_isStandsWord : Cond.selects mX9_isStandsWord.1.cls mX9_isStandsWord.1 mX9_isStandsWord.1 ∈ lw_good := lw_good_in (List.mem_append_left _ (List.mem_of_getElem? (i := 25) (by decide +kernel))) (by decide +kernel)
theorem seX9_readsCask : Cond.selects mX9_readsCask.1.cls mX9_readsCask.1 mX9_readsCask.1 ∈ lw_good := lw_good_in (List.mem_append_left _ (List.mem_of_getElem? (i := 26) (by decide +kernel))) (by decide +kernel)
theorem seX9_takes : Cond.selects mX9_takes.1.cls mX9_takes.1 mX9_takes.1 ∈ lw_good := lw_good_in (List.mem_append_left _ (List.mem_of_getElem? (i := 27) (by decide +kernel))) (by decide +kernel)
theorem seX9_numberIn : Cond.selects mX9_numberIn.1.cls mX9_numberIn.1 mX9_numberIn.1 ∈ lw_good := lw_good_in (List.mem_append_left _ (List.mem_of_getElem? (i := 28) (by decide +kernel))) (by decide +kernel)
theorem seX9_readsStands : Cond.selects mX9_readsStands.1.cls mX9_readsStands.1 mX9_readsStands.1 ∈ lw_good := lw_good_in (List.mem_append_left _ (List.mem_of_getElem? (i := 29) (by decide +kernel))) (by decide +kernel)
theorem seX9_notes : Cond.selects mX9_notes.1.cls mX9_notes.1 mX9_notes.1 ∈ lw_good := lw_good_in (List.mem_append_left _ (List.mem_of_getElem? (i := 30) (by decide +kernel))) (by decide +kernel)
theorem seX9_isCask : Cond.selects mX9_isCask.1.cls mX9_isCask.1 mX9_isCask.1 ∈ lw_good := lw_good_in (List.mem_append_left _ (List.mem_of_getElem? (i := 31) (by decide +kernel))) (by decide +kernel)
theorem seX9_hold : Cond.selects mX9_hold.1.cls mX9_hold.1 mX9_hold.1 ∈ lw_good := lw_good_in (List.mem_append_left _ (List.mem_of_getElem? (i := 32) (by decide +kernel))) (by decide +kernel)
theorem seX9_laysNow : Cond.selects mX9_laysNow.1.cls mX9_laysNow.1 mX9_laysNow.1 ∈ lw_good := lw_good_in (List.mem_append_left _ (List.mem_of_getElem? (i := 33) (by decide +kernel))) (by decide +kernel)
theorem seX9_of : Cond.selects mX9_of.1.cls mX9_of.1 mX9_of.1 ∈ lw_good := lw_good_in (List.mem_append_left _ (List.mem_of_getElem? (i := 34) (by decide +kernel))) (by decide +kernel)
theorem seX9_lays : Cond.selects mX9_lays.1.cls mX9_lays.1 mX9_lays.1 ∈ lw_good := lw_good_in (List.mem_append_left _ (List.mem_of_getElem? (i := 35) (by decide +kernel))) (by decide +kernel)
theorem seX9_cellsOf : Cond.selects mX9_cellsOf.1.cls mX9_cellsOf.1 mX9_cellsOf.1 ∈ lw_good := lw_good_in (List.mem_append_left _ (List.mem_of_getElem? (i := 36) (by decide +kernel))) (by decide +kernel)
theorem seX9_radius : Cond.selects mX9_radius.1.cls mX9_radius.1 mX9_radius.1 ∈ lw_good := lw_good_in (List.mem_append_left _ (List.mem_of_getElem? (i := 37) (by decide +kernel))) (by decide +kernel)
theorem seX9_goes : Cond.selects mX9_goes.1.cls mX9_goes.1 mX9_goes.1 ∈ lw_good := lw_good_in (List.mem_append_left _ (List.mem_of_getElem? (i := 38) (by decide +kernel))) (by decide +kernel)
theorem seX9_dipOf : Cond.selects mX9_dipOf.1.cls mX9_dipOf.1 mX9_dipOf.1 ∈ lw_good := lw_good_in (List.mem_append_left _ (List.mem_of_getElem? (i := 39) (by decide +kernel))) (by decide +kernel)
theorem seX9_strength : Cond.selects mX9_strength.1.cls mX9_strength.1 mX9_strength.1 ∈ lw_good := lw_good_in (List.mem_append_left _ (List.mem_of_getElem? (i := 40) (by decide +kernel))) (by decide +kernel)
theorem seX9_isHeight : Cond.selects mX9_isHeight.1.cls mX9_isHeight.1 mX9_isHeight.1 ∈ lw_good := lw_good_in (List.mem_append_left _ (List.mem_of_getElem? (i := 41) (by decide +kernel))) (by decide +kernel)
theorem seX9_mostBy : Cond.selects mX9_mostBy.1.cls mX9_mostBy.1 mX9_mostBy.1 ∈ lw_good := lw_good_in (List.mem_append_left _ (List.mem_of_getElem? (i := 42) (by decide +kernel))) (by decide +kernel)
theorem seX9_strongest : Cond.selects mX9_strongest.1.cls mX9_strongest.1 mX9_strongest.1 ∈ lw_good := lw_good_in (List.mem_append_left _ (List.mem_of_getElem? (i := 43) (by decide +kernel))) (by decide +kernel)
theorem seX9_mean : Cond.selects mX9_mean.1.cls mX9_mean.1 mX9_mean.1 ∈ lw_good := lw_good_in (List.mem_append_left _ (List.mem_of_getElem? (i := 44) (by decide +kernel))) (by decide +kernel)
theorem seX9_suspects : Cond.selects mX9_suspects.1.cls mX9_suspects.1 mX9_suspects.1 ∈ lw_good := lw_good_in (List.mem_append_left _ (List.mem_of_getElem? (i := 45) (by decide +kernel))) (by decide +kernel)
theorem seX9_laysDips : Cond.selects mX9_laysDips.1.cls mX9_laysDips.1 mX9_laysDips.1 ∈ lw_good := lw_good_in (List.mem_append_left _ (List.mem_of_getElem? (i := 46) (by decide +kernel))) (by decide +kernel)
theorem seX9_alike : Cond.selects mX9_alike.1.cls mX9_alike.1 mX9_alike.1 ∈ lw_good := lw_good_in (List.mem_append_left _ (List.mem_of_getElem? (i := 47) (by decide +kernel))) (by decide +kernel)
theorem seX9_sum : Cond.selects mX9_sum.1.cls mX9_sum.1 mX9_sum.1 ∈ lw_good := lw_good_in (List.mem_append_left _ (List.mem_of_getElem? (i := 48) (by decide +kernel))) (by decide +kernel)
theorem iniL : Cond.initialized RL ∈ lw_good := lw_good_in (List.mem_append_right _ (List.mem_of_getElem? (i := 0) (by decide +kernel))) (by decide +kernel)
theorem iniX8 : Cond.initialized RX8 ∈ lw_good := lw_good_in (List.mem_append_right _ (List.mem_of_getElem? (i := 1) (by decide +kernel))) (by decide +kernel)
theorem iniX7 : Cond.initialized RX7 ∈ lw_good := lw_good_in (List.mem_append_right _ (List.mem_of_getElem? (i := 2) (by decide +kernel))) (by decide +kernel)
theorem iniX4 : Cond.initialized RX4 ∈ lw_good := lw_good_in (List.mem_append_right _ (List.mem_of_getElem? (i := 3) (by decide +kernel))) (by decide +kernel)
theorem iniX1 : Cond.initialized RX1 ∈ lw_good := lw_good_in (List.mem_append_right _ (List.mem_of_getElem? (i := 4) (by decide +kernel))) (by decide +kernel)
theorem iniX0 : Cond.initialized RX0 ∈ lw_good := lw_good_in (List.mem_append_right _ (List.mem_of_getElem? (i := 5) (by decide +kernel))) (by decide +kernel)
theorem iniX3 : Cond.initialized RX3 ∈ lw_good := lw_good_in (List.mem_append_right _ (List.mem_of_getElem? (i := 6) (by decide +kernel))) (by decide +kernel)
theorem iniX6 : Cond.initialized RX6 ∈ lw_good := lw_good_in (List.mem_append_right _ (List.mem_of_getElem? (i := 7) (by decide +kernel))) (by decide +kernel)
theorem iniX2 : Cond.initialized RX2 ∈ lw_good := lw_good_in (List.mem_append_right _ (List.mem_of_getElem? (i := 8) (by decide +kernel))) (by decide +kernel)
theorem iniX5 : Cond.initialized RX5 ∈ lw_good := lw_good_in (List.mem_append_right _ (List.mem_of_getElem? (i := 9) (by decide +kernel))) (by decide +kernel)
theorem iniX9 : Cond.initialized RX9 ∈ lw_good := lw_good_in (List.mem_append_right _ (List.mem_of_getElem? (i := 10) (by decide +kernel))) (by decide +kernel)
theorem iniJ0 : Cond.initialized RJ0 ∈ lw_good := lw_good_in (List.mem_append_right _ (List.mem_of_getElem? (i := 11) (by decide +kernel))) (by decide +kernel)
theorem iniJ1 : Cond.initialized RJ1 ∈ lw_good := lw_good_in (List.mem_append_right _ (List.mem_of_getElem? (i := 12) (by decide +kernel))) (by decide +kernel)
theorem iniJ3 : Cond.initialized RJ3 ∈ lw_good := lw_good_in (List.mem_append_right _ (List.mem_of_getElem? (i := 13) (by decide +kernel))) (by decide +kernel)
theorem iniJ2 : Cond.initialized RJ2 ∈ lw_good := lw_good_in (List.mem_append_right _ (List.mem_of_getElem? (i := 14) (by decide +kernel))) (by decide +kernel)
theorem iniJ9 : Cond.initialized RJ9 ∈ lw_good := lw_good_in (List.mem_append_right _ (List.mem_of_getElem? (i := 15) (by decide +kernel))) (by decide +kernel)
theorem iniJ6 : Cond.initialized RJ6 ∈ lw_good := lw_good_in (List.mem_append_right _ (List.mem_of_getElem? (i := 16) (by decide +kernel))) (by decide +kernel)
theorem cnL_7 : Cond.classLink RL 7 RX8 ∈ lw_good := lw_good_in (List.mem_append_right _ (List.mem_of_getElem? (i := 17) (by decide +kernel))) (by decide +kernel)
theorem isX8 : Cond.instantiable RX8 11 ∈ lw_good := lw_good_in (List.mem_append_right _ (List.mem_of_getElem? (i := 18) (by decide +kernel))) (by decide +kernel)
theorem mlL_9 : Cond.methodLink RL 9 mX8_init.1 ∈ lw_good := lw_good_in (List.mem_append_right _ (List.mem_of_getElem? (i := 19) (by decide +kernel))) (by decide +kernel)
theorem mlX8_3 : Cond.methodLink RX8 3 objectInit ∈ lw_good := lw_good_in (List.mem_append_right _ (List.mem_of_getElem? (i := 22) (by decide +kernel))) (by decide +kernel)
theorem cnX8_9 : Cond.classLink RX8 9 RX7 ∈ lw_good := lw_good_in (List.mem_append_right _ (List.mem_of_getElem? (i := 25) (by decide +kernel))) (by decide +kernel)
theorem isX7 : Cond.instantiable RX7 5 ∈ lw_good := lw_good_in (List.mem_append_right _ (List.mem_of_getElem? (i := 26) (by decide +kernel))) (by decide +kernel)
theorem mlX8_11 : Cond.methodLink RX8 11 mX7_init.1 ∈ lw_good := lw_good_in (List.mem_append_right _ (List.mem_of_getElem? (i := 27) (by decide +kernel))) (by decide +kernel)
theorem mlX7_3 : Cond.methodLink RX7 3 objectInit ∈ lw_good := lw_good_in (List.mem_append_right _ (List.mem_of_getElem? (i := 30) (by decide +kernel))) (by decide +kernel)
theorem fgX7_9 : sm_Fg RX7 9 7 0 := ⟨_, _, _, _, clX7, by decide, lw_good_in (List.mem_append_right _ (List.mem_of_getElem? (i := 31) (by decide +kernel))) (by decide +kernel)⟩
theorem flX7_9 : sm_Fl RX7 9 7 0 (.array .int) true := ⟨_, _, _, _, clX7, by decide, rfl, rfl, lw_good_in (List.mem_append_right _ (List.mem_of_getElem? (i := 31) (by decide +kernel))) (by decide +kernel), by decide +kernel⟩
theorem fgX7_24 : sm_Fg RX7 24 7 1 := ⟨_, _, _, _, clX7, by decide, lw_good_in (List.mem_append_right _ (List.mem_of_getElem? (i := 32) (by decide +kernel))) (by decide +kernel)⟩
theorem flX7_24 : sm_Fl RX7 24 7 1 (.int) false := ⟨_, _, _, _, clX7, by decide, rfl, rfl, lw_good_in (List.mem_append_right _ (List.mem_of_getElem? (i := 32) (by decide +kernel))) (by decide +kernel), by decide +kernel⟩
theorem fgX8_81 : sm_Fg RX8 81 7 1 := ⟨_, _, _, _, clX7, by decide, lw_good_in (List.mem_append_right _ (List.mem_of_getElem? (i := 33) (by decide +kernel))) (by decide +kernel)⟩
theorem flX8_81 : sm_Fl RX8 81 7 1 (.int) false := ⟨_, _, _, _, clX7, by decide, rfl, rfl, lw_good_in (List.mem_append_right _ (List.mem_of_getElem? (i := 33) (by decide +kernel))) (by decide +kernel), by decide +kernel⟩
theorem fgX7_15 : sm_Fg RX7 15 7 2 := ⟨_, _, _, _, clX7, by decide, lw_good_in (List.mem_append_right _ (List.mem_of_getElem? (i := 34) (by decide +kernel))) (by decide +kernel)⟩
theorem flX7_15 : sm_Fl RX7 15 7 2 (.array .int) true := ⟨_, _, _, _, clX7, by decide, rfl, rfl, lw_good_in (List.mem_append_right _ (List.mem_of_getElem? (i := 34) (by decide +kernel))) (by decide +kernel), by decide +kernel⟩
theorem fgX4_37 : sm_Fg RX4 37 7 2 := ⟨_, _, _, _, clX7, by decide, lw_good_in (List.mem_append_right _ (List.mem_of_getElem? (i := 35) (by decide +kernel))) (by decide +kernel)⟩
theorem fgX7_18 : sm_Fg RX7 18 7 3 := ⟨_, _, _, _, clX7, by decide, lw_good_in (List.mem_append_right _ (List.mem_of_getElem? (i := 36) (by decide +kernel))) (by decide +kernel)⟩
theorem flX7_18 : sm_Fl RX7 18 7 3 (.array .int) true := ⟨_, _, _, _, clX7, by decide, rfl, rfl, lw_good_in (List.mem_append_right _ (List.mem_of_getElem? (i := 36) (by decide +kernel))) (by decide +kernel), by decide +kernel⟩
theorem fgX4_45 : sm_Fg RX4 45 7 3 := ⟨_, _, _, _, clX7, by decide, lw_good_in (List.mem_append_right _ (List.mem_of_getElem? (i := 37) (by decide +kernel))) (by decide +kernel)⟩
theorem fgX7_21 : sm_Fg RX7 21 7 4 := ⟨_, _, _, _, clX7, by decide, lw_good_in (List.mem_append_right _ (List.mem_of_getElem? (i := 38) (by decide +kernel))) (by decide +kernel)⟩
theorem flX7_21 : sm_Fl RX7 21 7 4 (.array .int) true := ⟨_, _, _, _, clX7, by decide, rfl, rfl, lw_good_in (List.mem_append_right _ (List.mem_of_getElem? (i := 38) (by decide +kernel))) (by decide +kernel), by decide +kernel⟩
theorem fgX4_61 : sm_Fg RX4 61 7 4 := ⟨_, _, _, _, clX7, by decide, lw_good_in (List.mem_append_right _ (List.mem_of_getElem? (i := 39) (by decide +kernel))) (by decide +kernel)⟩
theorem ac_int : Cond.arrayClass .int ∈ lw_good := lw_good_in (List.mem_append_right _ (List.mem_of_getElem? (i := 51) (by decide +kernel))) (by decide +kernel)
theorem cnX8_16 : Cond.classLink RX8 16 RX4 ∈ lw_good := lw_good_in (List.mem_append_right _ (List.mem_of_getElem? (i := 52) (by decide +kernel))) (by decide +kernel)
theorem isX4 : Cond.instantiable RX4 4 ∈ lw_good := lw_good_in (List.mem_append_right _ (List.mem_of_getElem? (i := 53) (by decide +kernel))) (by decide +kernel)
theorem mlX8_18 : Cond.methodLink RX8 18 mX4_init.1 ∈ lw_good := lw_good_in (List.mem_append_right _ (List.mem_of_getElem? (i := 54) (by decide +kernel))) (by decide +kernel)
theorem mlX4_3 : Cond.methodLink RX4 3 objectInit ∈ lw_good := lw_good_in (List.mem_append_right _ (List.mem_of_getElem? (i := 57) (by decide +kernel))) (by decide +kernel)
theorem cnX4_15 : Cond.classLink RX4 15 RX1 ∈ lw_good := lw_good_in (List.mem_append_right _ (List.mem_of_getElem? (i := 58) (by decide +kernel))) (by decide +kernel)
theorem isX1 : Cond.instantiable RX1 2 ∈ lw_good := lw_good_in (List.mem_append_right _ (List.mem_of_getElem? (i := 59) (by decide +kernel))) (by decide +kernel)
theorem mlX4_17 : Cond.methodLink RX4 17 mX1_init.1 ∈ lw_good := lw_good_in (List.mem_append_right _ (List.mem_of_getElem? (i := 60) (by decide +kernel))) (by decide +kernel)
theorem mlX1_3 : Cond.methodLink RX1 3 objectInit ∈ lw_good := lw_good_in (List.mem_append_right _ (List.mem_of_getElem? (i := 63) (by decide +kernel))) (by decide +kernel)
theorem cnX1_9 : Cond.classLink RX1 9 RX0 ∈ lw_good := lw_good_in (List.mem_append_right _ (List.mem_of_getElem? (i := 64) (by decide +kernel))) (by decide +kernel)
theorem isX0 : Cond.instantiable RX0 6 ∈ lw_good := lw_good_in (List.mem_append_right _ (List.mem_of_getElem? (i := 66) (by decide +kernel))) (by decide +kernel)
theorem mlX0_1 : Cond.methodLink RX0 1 objectInit ∈ lw_good := lw_good_in (List.mem_append_right _ (List.mem_of_getElem? (i := 70) (by decide +kernel))) (by decide +kernel)
theorem fgX0_7 : sm_Fg RX0 7 0 0 := ⟨_, _, _, _, clX0, by decide, lw_good_in (List.mem_append_right _ (List.mem_of_getElem? (i := 71) (by decide +kernel))) (by decide +kernel)⟩
theorem flX0_7 : sm_Fl RX0 7 0 0 (.int) false := ⟨_, _, _, _, clX0, by decide, rfl, rfl, lw_good_in (List.mem_append_right _ (List.mem_of_getElem? (i := 71) (by decide +kernel))) (by decide +kernel), by decide +kernel⟩
theorem fgX2_23 : sm_Fg RX2 23 0 0 := ⟨_, _, _, _, clX0, by decide, lw_good_in (List.mem_append_right _ (List.mem_of_getElem? (i := 72) (by decide +kernel))) (by decide +kernel)⟩
theorem flX2_23 : sm_Fl RX2 23 0 0 (.int) false := ⟨_, _, _, _, clX0, by decide, rfl, rfl, lw_good_in (List.mem_append_right _ (List.mem_of_getElem? (i := 72) (by decide +kernel))) (by decide +kernel), by decide +kernel⟩
theorem fgX8_140 : sm_Fg RX8 140 0 0 := ⟨_, _, _, _, clX0, by decide, lw_good_in (List.mem_append_right _ (List.mem_of_getElem? (i := 73) (by decide +kernel))) (by decide +kernel)⟩
theorem flX8_140 : sm_Fl RX8 140 0 0 (.int) false := ⟨_, _, _, _, clX0, by decide, rfl, rfl, lw_good_in (List.mem_append_right _ (List.mem_of_getElem? (i := 73) (by decide +kernel))) (by decide +kernel), by decide +kernel⟩
theorem fgX0_13 : sm_Fg RX0 13 0 1 := ⟨_, _, _, _, clX0, by decide, lw_good_in (List.mem_append_right _ (List.mem_of_getElem? (i := 74) (by decide +kernel))) (by decide +kernel)⟩
theorem flX0_13 : sm_Fl RX0 13 0 1 (.int) false := ⟨_, _, _, _, clX0, by decide, rfl, rfl, lw_good_in (List.mem_append_right _ (List.mem_of_getElem? (i := 74) (by decide +kernel))) (by decide +kernel), by decide +kernel⟩
theorem fgX2_29 : sm_Fg RX2 29 0 1 := ⟨_, _, _, _, clX0, by decide, lw_good_in (List.mem_append_right _ (List.mem_of_getElem? (i := 75) (by decide +kernel))) (by decide +kernel)⟩
theorem flX2_29 : sm_Fl RX2 29 0 1 (.int) false := ⟨_, _, _, _, clX0, by decide, rfl, rfl, lw_good_in (List.mem_append_right _ (List.mem_of_getElem? (i := 75) (by decide +kernel))) (by decide +kernel), by decide +kernel⟩
theorem fgX8_143 : sm_Fg RX8 143 0 1 := ⟨_, _, _, _, clX0, by decide, lw_good_in (List.mem_append_right _ (List.mem_of_getElem? (i := 76) (by decide +kernel))) (by decide +kernel)⟩
theorem flX8_143 : sm_Fl RX8 143 0 1 (.int) false := ⟨_, _, _, _, clX0, by decide, rfl, rfl, lw_good_in (List.mem_append_right _ (List.mem_of_getElem? (i := 76) (by decide +kernel))) (by decide +kernel), by decide +kernel⟩
theorem fgX0_16 : sm_Fg RX0 16 0 2 := ⟨_, _, _, _, clX0, by decide, lw_good_in (List.mem_append_right _ (List.mem_of_getElem? (i := 77) (by decide +kernel))) (by decide +kernel)⟩
theorem flX0_16 : sm_Fl RX0 16 0 2 (.int) false := ⟨_, _, _, _, clX0, by decide, rfl, rfl, lw_good_in (List.mem_append_right _ (List.mem_of_getElem? (i := 77) (by decide +kernel))) (by decide +kernel), by decide +kernel⟩
theorem fgX2_33 : sm_Fg RX2 33 0 2 := ⟨_, _, _, _, clX0, by decide, lw_good_in (List.mem_append_right _ (List.mem_of_getElem? (i := 78) (by decide +kernel))) (by decide +kernel)⟩
theorem flX2_33 : sm_Fl RX2 33 0 2 (.int) false := ⟨_, _, _, _, clX0, by decide, rfl, rfl, lw_good_in (List.mem_append_right _ (List.mem_of_getElem? (i := 78) (by decide +kernel))) (by decide +kernel), by decide +kernel⟩
theorem fgX8_146 : sm_Fg RX8 146 0 2 := ⟨_, _, _, _, clX0, by decide, lw_good_in (List.mem_append_right _ (List.mem_of_getElem? (i := 79) (by decide +kernel))) (by decide +kernel)⟩
theorem flX8_146 : sm_Fl RX8 146 0 2 (.int) false := ⟨_, _, _, _, clX0, by decide, rfl, rfl, lw_good_in (List.mem_append_right _ (List.mem_of_getElem? (i := 79) (by decide +kernel))) (by decide +kernel), by decide +kernel⟩
theorem fgX0_19 : sm_Fg RX0 19 0 3 := ⟨_, _, _, _, clX0, by decide, lw_good_in (List.mem_append_right _ (List.mem_of_getElem? (i := 80) (by decide +kernel))) (by decide +kernel)⟩
theorem flX0_19 : sm_Fl RX0 19 0 3 (.boolean) false := ⟨_, _, _, _, clX0, by decide, rfl, rfl, lw_good_in (List.mem_append_right _ (List.mem_of_getElem? (i := 80) (by decide +kernel))) (by decide +kernel), by decide +kernel⟩
theorem fgX4_79 : sm_Fg RX4 79 0 3 := ⟨_, _, _, _, clX0, by decide, lw_good_in (List.mem_append_right _ (List.mem_of_getElem? (i := 81) (by decide +kernel))) (by decide +kernel)⟩
theorem flX4_79 : sm_Fl RX4 79 0 3 (.boolean) false := ⟨_, _, _, _, clX0, by decide, rfl, rfl, lw_good_in (List.mem_append_right _ (List.mem_of_getElem? (i := 81) (by decide +kernel))) (by decide +kernel), by decide +kernel⟩
theorem fgX8_129 : sm_Fg RX8 129 0 3 := ⟨_, _, _, _, clX0, by decide, lw_good_in (List.mem_append_right _ (List.mem_of_getElem? (i := 82) (by decide +kernel))) (by decide +kernel)⟩
theorem flX8_129 : sm_Fl RX8 129 0 3 (.boolean) false := ⟨_, _, _, _, clX0, by decide, rfl, rfl, lw_good_in (List.mem_append_right _ (List.mem_of_getElem? (i := 82) (by decide +kernel))) (by decide +kernel), by decide +kernel⟩
theorem fgX0_23 : sm_Fg RX0 23 0 4 := ⟨_, _, _, _, clX0, by decide, lw_good_in (List.mem_append_right _ (List.mem_of_getElem? (i := 83) (by decide +kernel))) (by decide +kernel)⟩
theorem flX0_23 : sm_Fl RX0 23 0 4 (.int) false := ⟨_, _, _, _, clX0, by decide, rfl, rfl, lw_good_in (List.mem_append_right _ (List.mem_of_getElem? (i := 83) (by decide +kernel))) (by decide +kernel), by decide +kernel⟩
theorem fgX8_123 : sm_Fg RX8 123 0 4 := ⟨_, _, _, _, clX0, by decide, lw_good_in (List.mem_append_right _ (List.mem_of_getElem? (i := 84) (by decide +kernel))) (by decide +kernel)⟩
theorem flX8_123 : sm_Fl RX8 123 0 4 (.int) false := ⟨_, _, _, _, clX0, by decide, rfl, rfl, lw_good_in (List.mem_append_right _ (List.mem_of_getElem? (i := 84) (by decide +kernel))) (by decide +kernel), by decide +kernel⟩
theorem fgX1_30 : sm_Fg RX1 30 0 4 := ⟨_, _, _, _, clX0, by decide, lw_good_in (List.mem_append_right _ (List.mem_of_getElem? (i := 85) (by decide +kernel))) (by decide +kernel)⟩
theorem flX1_30 : sm_Fl RX1 30 0 4 (.int) false := ⟨_, _, _, _, clX0, by decide, rfl, rfl, lw_good_in (List.mem_append_right _ (List.mem_of_getElem? (i := 85) (by decide +kernel))) (by decide +kernel), by decide +kernel⟩
theorem fgX0_26 : sm_Fg RX0 26 0 5 := ⟨_, _, _, _, clX0, by decide, lw_good_in (List.mem_append_right _ (List.mem_of_getElem? (i := 86) (by decide +kernel))) (by decide +kernel)⟩
theorem flX0_26 : sm_Fl RX0 26 0 5 (.int) false := ⟨_, _, _, _, clX0, by decide, rfl, rfl, lw_good_in (List.mem_append_right _ (List.mem_of_getElem? (i := 86) (by decide +kernel))) (by decide +kernel), by decide +kernel⟩
theorem fgX1_33 : sm_Fg RX1 33 0 5 := ⟨_, _, _, _, clX0, by decide, lw_good_in (List.mem_append_right _ (List.mem_of_getElem? (i := 87) (by decide +kernel))) (by decide +kernel)⟩
theorem flX1_33 : sm_Fl RX1 33 0 5 (.int) false := ⟨_, _, _, _, clX0, by decide, rfl, rfl, lw_good_in (List.mem_append_right _ (List.mem_of_getElem? (i := 87) (by decide +kernel))) (by decide +kernel), by decide +kernel⟩
theorem fgX8_156 : sm_Fg RX8 156 0 5 := ⟨_, _, _, _, clX0, by decide, lw_good_in (List.mem_append_right _ (List.mem_of_getElem? (i := 88) (by decide +kernel))) (by decide +kernel)⟩
theorem flX8_156 : sm_Fl RX8 156 0 5 (.int) false := ⟨_, _, _, _, clX0, by decide, rfl, rfl, lw_good_in (List.mem_append_right _ (List.mem_of_getElem? (i := 88) (by decide +kernel))) (by decide +kernel), by decide +kernel⟩
theorem fgX1_11 : sm_Fg RX1 11 1 0 := ⟨_, _, _, _, clX1, by decide, lw_good_in (List.mem_append_right _ (List.mem_of_getElem? (i := 102) (by decide +kernel))) (by decide +kernel)⟩
theorem flX1_11 : sm_Fl RX1 11 1 0 (.array (.object "CaskGauge$Cask")) true := ⟨_, _, _, _, clX1, by decide, rfl, rfl, lw_good_in (List.mem_append_right _ (List.mem_of_getElem? (i := 102) (by decide +kernel))) (by decide +kernel), by decide +kernel⟩
theorem fgX8_113 : sm_Fg RX8 113 1 0 := ⟨_, _, _, _, clX1, by decide, lw_good_in (List.mem_append_right _ (List.mem_of_getElem? (i := 103) (by decide +kernel))) (by decide +kernel)⟩
theorem fgX4_75 : sm_Fg RX4 75 1 0 := ⟨_, _, _, _, clX1, by decide, lw_good_in (List.mem_append_right _ (List.mem_of_getElem? (i := 104) (by decide +kernel))) (by decide +kernel)⟩
theorem fgX1_18 : sm_Fg RX1 18 1 1 := ⟨_, _, _, _, clX1, by decide, lw_good_in (List.mem_append_right _ (List.mem_of_getElem? (i := 105) (by decide +kernel))) (by decide +kernel)⟩
theorem flX1_18 : sm_Fl RX1 18 1 1 (.int) false := ⟨_, _, _, _, clX1, by decide, rfl, rfl, lw_good_in (List.mem_append_right _ (List.mem_of_getElem? (i := 105) (by decide +kernel))) (by decide +kernel), by decide +kernel⟩
theorem fgX4_48 : sm_Fg RX4 48 1 1 := ⟨_, _, _, _, clX1, by decide, lw_good_in (List.mem_append_right _ (List.mem_of_getElem? (i := 106) (by decide +kernel))) (by decide +kernel)⟩
theorem flX4_48 : sm_Fl RX4 48 1 1 (.int) false := ⟨_, _, _, _, clX1, by decide, rfl, rfl, lw_good_in (List.mem_append_right _ (List.mem_of_getElem? (i := 106) (by decide +kernel))) (by decide +kernel), by decide +kernel⟩
theorem fgX8_216 : sm_Fg RX8 216 1 1 := ⟨_, _, _, _, clX1, by decide, lw_good_in (List.mem_append_right _ (List.mem_of_getElem? (i := 107) (by decide +kernel))) (by decide +kernel)⟩
theorem flX8_216 : sm_Fl RX8 216 1 1 (.int) false := ⟨_, _, _, _, clX1, by decide, rfl, rfl, lw_good_in (List.mem_append_right _ (List.mem_of_getElem? (i := 107) (by decide +kernel))) (by decide +kernel), by decide +kernel⟩
theorem fgX4_18 : sm_Fg RX4 18 4 0 := ⟨_, _, _, _, clX4, by decide, lw_good_in (List.mem_append_right _ (List.mem_of_getElem? (i := 113) (by decide +kernel))) (by decide +kernel)⟩
theorem flX4_18 : sm_Fl RX4 18 4 0 (.object "CaskGauge$Cellar") true := ⟨_, _, _, _, clX4, by decide, rfl, rfl, lw_good_in (List.mem_append_right _ (List.mem_of_getElem? (i := 113) (by decide +kernel))) (by decide +kernel), by decide +kernel⟩
theorem fgX8_97 : sm_Fg RX8 97 4 0 := ⟨_, _, _, _, clX4, by decide, lw_good_in (List.mem_append_right _ (List.mem_of_getElem? (i := 114) (by decide +kernel))) (by decide +kernel)⟩
theorem fgX4_30 : sm_Fg RX4 30 4 1 := ⟨_, _, _, _, clX4, by decide, lw_good_in (List.mem_append_right _ (List.mem_of_getElem? (i := 115) (by decide +kernel))) (by decide +kernel)⟩
theorem flX4_30 : sm_Fl RX4 30 4 1 (.int) false := ⟨_, _, _, _, clX4, by decide, rfl, rfl, lw_good_in (List.mem_append_right _ (List.mem_of_getElem? (i := 115) (by decide +kernel))) (by decide +kernel), by decide +kernel⟩
theorem fgX8_103 : sm_Fg RX8 103 4 1 := ⟨_, _, _, _, clX4, by decide, lw_good_in (List.mem_append_right _ (List.mem_of_getElem? (i := 116) (by decide +kernel))) (by decide +kernel)⟩
theorem flX8_103 : sm_Fl RX8 103 4 1 (.int) false := ⟨_, _, _, _, clX4, by decide, rfl, rfl, lw_good_in (List.mem_append_right _ (List.mem_of_getElem? (i := 116) (by decide +kernel))) (by decide +kernel), by decide +kernel⟩
theorem fgX4_9 : sm_Fg RX4 9 4 2 := ⟨_, _, _, _, clX4, by decide, lw_good_in (List.mem_append_right _ (List.mem_of_getElem? (i := 117) (by decide +kernel))) (by decide +kernel)⟩
theorem flX4_9 : sm_Fl RX4 9 4 2 (.object "CaskGauge$Text") true := ⟨_, _, _, _, clX4, by decide, rfl, rfl, lw_good_in (List.mem_append_right _ (List.mem_of_getElem? (i := 117) (by decide +kernel))) (by decide +kernel), by decide +kernel⟩
theorem fgX4_34 : sm_Fg RX4 34 4 3 := ⟨_, _, _, _, clX4, by decide, lw_good_in (List.mem_append_right _ (List.mem_of_getElem? (i := 118) (by decide +kernel))) (by decide +kernel)⟩
theorem flX4_34 : sm_Fl RX4 34 4 3 (.int) false := ⟨_, _, _, _, clX4, by decide, rfl, rfl, lw_good_in (List.mem_append_right _ (List.mem_of_getElem? (i := 118) (by decide +kernel))) (by decide +kernel), by decide +kernel⟩
theorem cnX8_25 : Cond.classLink RX8 25 RX1 ∈ lw_good := lw_good_in (List.mem_append_right _ (List.mem_of_getElem? (i := 128) (by decide +kernel))) (by decide +kernel)
theorem mlX8_27 : Cond.methodLink RX8 27 mX1_init.1 ∈ lw_good := lw_good_in (List.mem_append_right _ (List.mem_of_getElem? (i := 129) (by decide +kernel))) (by decide +kernel)
theorem cnX8_32 : Cond.classLink RX8 32 RX3 ∈ lw_good := lw_good_in (List.mem_append_right _ (List.mem_of_getElem? (i := 130) (by decide +kernel))) (by decide +kernel)
theorem isX3 : Cond.instantiable RX3 3 ∈ lw_good := lw_good_in (List.mem_append_right _ (List.mem_of_getElem? (i := 131) (by decide +kernel))) (by decide +kernel)
theorem mlX8_34 : Cond.methodLink RX8 34 mX3_init.1 ∈ lw_good := lw_good_in (List.mem_append_right _ (List.mem_of_getElem? (i := 132) (by decide +kernel))) (by decide +kernel)
theorem mlX3_3 : Cond.methodLink RX3 3 objectInit ∈ lw_good := lw_good_in (List.mem_append_right _ (List.mem_of_getElem? (i := 135) (by decide +kernel))) (by decide +kernel)
theorem cnX3_9 : Cond.classLink RX3 9 RX1 ∈ lw_good := lw_good_in (List.mem_append_right _ (List.mem_of_getElem? (i := 136) (by decide +kernel))) (by decide +kernel)
theorem mlX3_17 : Cond.methodLink RX3 17 mX1_init.1 ∈ lw_good := lw_good_in (List.mem_append_right _ (List.mem_of_getElem? (i := 138) (by decide +kernel))) (by decide +kernel)
theorem fgX3_11 : sm_Fg RX3 11 3 0 := ⟨_, _, _, _, clX3, by decide, lw_good_in (List.mem_append_right _ (List.mem_of_getElem? (i := 139) (by decide +kernel))) (by decide +kernel)⟩
theorem flX3_11 : sm_Fl RX3 11 3 0 (.array (.object "CaskGauge$Cellar")) true := ⟨_, _, _, _, clX3, by decide, rfl, rfl, lw_good_in (List.mem_append_right _ (List.mem_of_getElem? (i := 139) (by decide +kernel))) (by decide +kernel), by decide +kernel⟩
theorem fgX3_18 : sm_Fg RX3 18 3 1 := ⟨_, _, _, _, clX3, by decide, lw_good_in (List.mem_append_right _ (List.mem_of_getElem? (i := 140) (by decide +kernel))) (by decide +kernel)⟩
theorem flX3_18 : sm_Fl RX3 18 3 1 (.int) false := ⟨_, _, _, _, clX3, by decide, rfl, rfl, lw_good_in (List.mem_append_right _ (List.mem_of_getElem? (i := 140) (by decide +kernel))) (by decide +kernel), by decide +kernel⟩
theorem fgX3_26 : sm_Fg RX3 26 3 2 := ⟨_, _, _, _, clX3, by decide, lw_good_in (List.mem_append_right _ (List.mem_of_getElem? (i := 141) (by decide +kernel))) (by decide +kernel)⟩
theorem flX3_26 : sm_Fl RX3 26 3 2 (.int) false := ⟨_, _, _, _, clX3, by decide, rfl, rfl, lw_good_in (List.mem_append_right _ (List.mem_of_getElem? (i := 141) (by decide +kernel))) (by decide +kernel), by decide +kernel⟩
theorem fgX8_137 : sm_Fg RX8 137 3 2 := ⟨_, _, _, _, clX3, by decide, lw_good_in (List.mem_append_right _ (List.mem_of_getElem? (i := 142) (by decide +kernel))) (by decide +kernel)⟩
theorem flX8_137 : sm_Fl RX8 137 3 2 (.int) false := ⟨_, _, _, _, clX3, by decide, rfl, rfl, lw_good_in (List.mem_append_right _ (List.mem_of_getElem? (i := 142) (by decide +kernel))) (by decide +kernel), by decide +kernel⟩
theorem cnX8_47 : Cond.classLink RX8 47 RX6 ∈ lw_good := lw_good_in (List.mem_append_right _ (List.mem_of_getElem? (i := 150) (by decide +kernel))) (by decide +kernel)
theorem isX6 : Cond.instantiable RX6 3 ∈ lw_good := lw_good_in (List.mem_append_right _ (List.mem_of_getElem? (i := 151) (by decide +kernel))) (by decide +kernel)
theorem mlX8_49 : Cond.methodLink RX8 49 mX6_init.1 ∈ lw_good := lw_good_in (List.mem_append_right _ (List.mem_of_getElem? (i := 152) (by decide +kernel))) (by decide +kernel)
theorem mlX6_3 : Cond.methodLink RX6 3 objectInit ∈ lw_good := lw_good_in (List.mem_append_right _ (List.mem_of_getElem? (i := 155) (by decide +kernel))) (by decide +kernel)
theorem fgX6_9 : sm_Fg RX6 9 6 0 := ⟨_, _, _, _, clX6, by decide, lw_good_in (List.mem_append_right _ (List.mem_of_getElem? (i := 156) (by decide +kernel))) (by decide +kernel)⟩
theorem flX6_9 : sm_Fl RX6 9 6 0 (.array .int) true := ⟨_, _, _, _, clX6, by decide, rfl, rfl, lw_good_in (List.mem_append_right _ (List.mem_of_getElem? (i := 156) (by decide +kernel))) (by decide +kernel), by decide +kernel⟩
theorem fgX6_15 : sm_Fg RX6 15 6 1 := ⟨_, _, _, _, clX6, by decide, lw_good_in (List.mem_append_right _ (List.mem_of_getElem? (i := 157) (by decide +kernel))) (by decide +kernel)⟩
theorem flX6_15 : sm_Fl RX6 15 6 1 (.array .int) true := ⟨_, _, _, _, clX6, by decide, rfl, rfl, lw_good_in (List.mem_append_right _ (List.mem_of_getElem? (i := 157) (by decide +kernel))) (by decide +kernel), by decide +kernel⟩
theorem fgX6_18 : sm_Fg RX6 18 6 2 := ⟨_, _, _, _, clX6, by decide, lw_good_in (List.mem_append_right _ (List.mem_of_getElem? (i := 158) (by decide +kernel))) (by decide +kernel)⟩
theorem flX6_18 : sm_Fl RX6 18 6 2 (.int) false := ⟨_, _, _, _, clX6, by decide, rfl, rfl, lw_good_in (List.mem_append_right _ (List.mem_of_getElem? (i := 158) (by decide +kernel))) (by decide +kernel), by decide +kernel⟩
theorem fgX8_215 : sm_Fg RX8 215 6 2 := ⟨_, _, _, _, clX6, by decide, lw_good_in (List.mem_append_right _ (List.mem_of_getElem? (i := 159) (by decide +kernel))) (by decide +kernel)⟩
theorem flX8_215 : sm_Fl RX8 215 6 2 (.int) false := ⟨_, _, _, _, clX6, by decide, rfl, rfl, lw_good_in (List.mem_append_right _ (List.mem_of_getElem? (i := 159) (by decide +kernel))) (by decide +kernel), by decide +kernel⟩
theorem ac_boolean : Cond.arrayClass .boolean ∈ lw_good := lw_good_in (List.mem_append_right _ (List.mem_of_getElem? (i := 167) (by decide +kernel))) (by decide +kernel)
theorem cnX8_54 : Cond.classLink RX8 54 RX2 ∈ lw_good := lw_good_in (List.mem_append_right _ (List.mem_of_getElem? (i := 168) (by decide +kernel))) (by decide +kernel)
theorem isX2 : Cond.instantiable RX2 6 ∈ lw_good := lw_good_in (List.mem_append_right _ (List.mem_of_getElem? (i := 170) (by decide +kernel))) (by decide +kernel)
theorem mlX8_63 : Cond.methodLink RX8 63 mX2_init.1 ∈ lw_good := lw_good_in (List.mem_append_right _ (List.mem_of_getElem? (i := 171) (by decide +kernel))) (by decide +kernel)
theorem mlX2_3 : Cond.methodLink RX2 3 objectInit ∈ lw_good := lw_good_in (List.mem_append_right _ (List.mem_of_getElem? (i := 174) (by decide +kernel))) (by decide +kernel)
theorem fgX2_9 : sm_Fg RX2 9 2 0 := ⟨_, _, _, _, clX2, by decide, lw_good_in (List.mem_append_right _ (List.mem_of_getElem? (i := 175) (by decide +kernel))) (by decide +kernel)⟩
theorem flX2_9 : sm_Fl RX2 9 2 0 (.boolean) true := ⟨_, _, _, _, clX2, by decide, rfl, rfl, lw_good_in (List.mem_append_right _ (List.mem_of_getElem? (i := 175) (by decide +kernel))) (by decide +kernel), by decide +kernel⟩
theorem fgX2_15 : sm_Fg RX2 15 2 1 := ⟨_, _, _, _, clX2, by decide, lw_good_in (List.mem_append_right _ (List.mem_of_getElem? (i := 176) (by decide +kernel))) (by decide +kernel)⟩
theorem flX2_15 : sm_Fl RX2 15 2 1 (.array .int) true := ⟨_, _, _, _, clX2, by decide, rfl, rfl, lw_good_in (List.mem_append_right _ (List.mem_of_getElem? (i := 176) (by decide +kernel))) (by decide +kernel), by decide +kernel⟩
theorem fgX2_19 : sm_Fg RX2 19 2 2 := ⟨_, _, _, _, clX2, by decide, lw_good_in (List.mem_append_right _ (List.mem_of_getElem? (i := 177) (by decide +kernel))) (by decide +kernel)⟩
theorem flX2_19 : sm_Fl RX2 19 2 2 (.int) false := ⟨_, _, _, _, clX2, by decide, rfl, rfl, lw_good_in (List.mem_append_right _ (List.mem_of_getElem? (i := 177) (by decide +kernel))) (by decide +kernel), by decide +kernel⟩
theorem fgX2_26 : sm_Fg RX2 26 2 3 := ⟨_, _, _, _, clX2, by decide, lw_good_in (List.mem_append_right _ (List.mem_of_getElem? (i := 178) (by decide +kernel))) (by decide +kernel)⟩
theorem flX2_26 : sm_Fl RX2 26 2 3 (.int) false := ⟨_, _, _, _, clX2, by decide, rfl, rfl, lw_good_in (List.mem_append_right _ (List.mem_of_getElem? (i := 178) (by decide +kernel))) (by decide +kernel), by decide +kernel⟩
theorem fgX2_30 : sm_Fg RX2 30 2 4 := ⟨_, _, _, _, clX2, by decide, lw_good_in (List.mem_append_right _ (List.mem_of_getElem? (i := 179) (by decide +kernel))) (by decide +kernel)⟩
theorem flX2_30 : sm_Fl RX2 30 2 4 (.int) false := ⟨_, _, _, _, clX2, by decide, rfl, rfl, lw_good_in (List.mem_append_right _ (List.mem_of_getElem? (i := 179) (by decide +kernel))) (by decide +kernel), by decide +kernel⟩
theorem fgX2_40 : sm_Fg RX2 40 2 5 := ⟨_, _, _, _, clX2, by decide, lw_good_in (List.mem_append_right _ (List.mem_of_getElem? (i := 180) (by decide +kernel))) (by decide +kernel)⟩
theorem flX2_40 : sm_Fl RX2 40 2 5 (.int) false := ⟨_, _, _, _, clX2, by decide, rfl, rfl, lw_good_in (List.mem_append_right _ (List.mem_of_getElem? (i := 180) (by decide +kernel))) (by decide +kernel), by decide +kernel⟩
theorem cnX8_66 : Cond.classLink RX8 66 RX5 ∈ lw_good := lw_good_in (List.mem_append_right _ (List.mem_of_getElem? (i := 194) (by decide +kernel))) (by decide +kernel)
theorem isX5 : Cond.instantiable RX5 5 ∈ lw_good := lw_good_in (List.mem_append_right _ (List.mem_of_getElem? (i := 195) (by decide +kernel))) (by decide +kernel)
theorem mlX5_3 : Cond.methodLink RX5 3 objectInit ∈ lw_good := lw_good_in (List.mem_append_right _ (List.mem_of_getElem? (i := 199) (by decide +kernel))) (by decide +kernel)
theorem fgX5_9 : sm_Fg RX5 9 5 0 := ⟨_, _, _, _, clX5, by decide, lw_good_in (List.mem_append_right _ (List.mem_of_getElem? (i := 200) (by decide +kernel))) (by decide +kernel)⟩
theorem flX5_9 : sm_Fl RX5 9 5 0 (.int) false := ⟨_, _, _, _, clX5, by decide, rfl, rfl, lw_good_in (List.mem_append_right _ (List.mem_of_getElem? (i := 200) (by decide +kernel))) (by decide +kernel), by decide +kernel⟩
theorem fgX8_202 : sm_Fg RX8 202 5 0 := ⟨_, _, _, _, clX5, by decide, lw_good_in (List.mem_append_right _ (List.mem_of_getElem? (i := 201) (by decide +kernel))) (by decide +kernel)⟩
theorem flX8_202 : sm_Fl RX8 202 5 0 (.int) false := ⟨_, _, _, _, clX5, by decide, rfl, rfl, lw_good_in (List.mem_append_right _ (List.mem_of_getElem? (i := 201) (by decide +kernel))) (by decide +kernel), by decide +kernel⟩
theorem fgX5_37 : sm_Fg RX5 37 5 1 := ⟨_, _, _, _, clX5, by decide, lw_good_in (List.mem_append_right _ (List.mem_of_getElem? (i := 202) (by decide +kernel))) (by decide +kernel)⟩
theorem flX5_37 : sm_Fl RX5 37 5 1 (.int) false := ⟨_, _, _, _, clX5, by decide, rfl, rfl, lw_good_in (List.mem_append_right _ (List.mem_of_getElem? (i := 202) (by decide +kernel))) (by decide +kernel), by decide +kernel⟩
theorem fgX8_190 : sm_Fg RX8 190 5 1 := ⟨_, _, _, _, clX5, by decide, lw_good_in (List.mem_append_right _ (List.mem_of_getElem? (i := 203) (by decide +kernel))) (by decide +kernel)⟩
theorem flX8_190 : sm_Fl RX8 190 5 1 (.int) false := ⟨_, _, _, _, clX5, by decide, rfl, rfl, lw_good_in (List.mem_append_right _ (List.mem_of_getElem? (i := 203) (by decide +kernel))) (by decide +kernel), by decide +kernel⟩
theorem fgX5_40 : sm_Fg RX5 40 5 2 := ⟨_, _, _, _, clX5, by decide, lw_good_in (List.mem_append_right _ (List.mem_of_getElem? (i := 204) (by decide +kernel))) (by decide +kernel)⟩
theorem flX5_40 : sm_Fl RX5 40 5 2 (.int) false := ⟨_, _, _, _, clX5, by decide, rfl, rfl, lw_good_in (List.mem_append_right _ (List.mem_of_getElem? (i := 204) (by decide +kernel))) (by decide +kernel), by decide +kernel⟩
theorem fgX8_193 : sm_Fg RX8 193 5 2 := ⟨_, _, _, _, clX5, by decide, lw_good_in (List.mem_append_right _ (List.mem_of_getElem? (i := 205) (by decide +kernel))) (by decide +kernel)⟩
theorem flX8_193 : sm_Fl RX8 193 5 2 (.int) false := ⟨_, _, _, _, clX5, by decide, rfl, rfl, lw_good_in (List.mem_append_right _ (List.mem_of_getElem? (i := 205) (by decide +kernel))) (by decide +kernel), by decide +kernel⟩
theorem fgX5_43 : sm_Fg RX5 43 5 3 := ⟨_, _, _, _, clX5, by decide, lw_good_in (List.mem_append_right _ (List.mem_of_getElem? (i := 206) (by decide +kernel))) (by decide +kernel)⟩
theorem flX5_43 : sm_Fl RX5 43 5 3 (.int) false := ⟨_, _, _, _, clX5, by decide, rfl, rfl, lw_good_in (List.mem_append_right _ (List.mem_of_getElem? (i := 206) (by decide +kernel))) (by decide +kernel), by decide +kernel⟩
theorem fgX8_196 : sm_Fg RX8 196 5 3 := ⟨_, _, _, _, clX5, by decide, lw_good_in (List.mem_append_right _ (List.mem_of_getElem? (i := 207) (by decide +kernel))) (by decide +kernel)⟩
theorem flX8_196 : sm_Fl RX8 196 5 3 (.int) false := ⟨_, _, _, _, clX5, by decide, rfl, rfl, lw_good_in (List.mem_append_right _ (List.mem_of_getElem? (i := 207) (by decide +kernel))) (by decide +kernel), by decide +kernel⟩
theorem fgX5_46 : sm_Fg RX5 46 5 4 := ⟨_, _, _, _, clX5, by decide, lw_good_in (List.mem_append_right _ (List.mem_of_getElem? (i := 208) (by decide +kernel))) (by decide +kernel)⟩
theorem flX5_46 : sm_Fl RX5 46 5 4 (.int) false := ⟨_, _, _, _, clX5, by decide, rfl, rfl, lw_good_in (List.mem_append_right _ (List.mem_of_getElem? (i := 208) (by decide +kernel))) (by decide +kernel), by decide +kernel⟩
theorem fgX8_199 : sm_Fg RX8 199 5 4 := ⟨_, _, _, _, clX5, by decide, lw_good_in (List.mem_append_right _ (List.mem_of_getElem? (i := 209) (by decide +kernel))) (by decide +kernel)⟩
theorem flX8_199 : sm_Fl RX8 199 5 4 (.int) false := ⟨_, _, _, _, clX5, by decide, rfl, rfl, lw_good_in (List.mem_append_right _ (List.mem_of_getElem? (i := 209) (by decide +kernel))) (by decide +kernel), by decide +kernel⟩
theorem fgX8_12 : sm_Fg RX8 12 8 0 := ⟨_, _, _, _, clX8, by decide, lw_good_in (List.mem_append_right _ (List.mem_of_getElem? (i := 221) (by decide +kernel))) (by decide +kernel)⟩
theorem flX8_12 : sm_Fl RX8 12 8 0 (.object "CaskGauge$Text") true := ⟨_, _, _, _, clX8, by decide, rfl, rfl, lw_good_in (List.mem_append_right _ (List.mem_of_getElem? (i := 221) (by decide +kernel))) (by decide +kernel), by decide +kernel⟩
theorem fgX8_21 : sm_Fg RX8 21 8 1 := ⟨_, _, _, _, clX8, by decide, lw_good_in (List.mem_append_right _ (List.mem_of_getElem? (i := 222) (by decide +kernel))) (by decide +kernel)⟩
theorem flX8_21 : sm_Fl RX8 21 8 1 (.object "CaskGauge$Reader") true := ⟨_, _, _, _, clX8, by decide, rfl, rfl, lw_good_in (List.mem_append_right _ (List.mem_of_getElem? (i := 222) (by decide +kernel))) (by decide +kernel), by decide +kernel⟩
theorem fgX8_28 : sm_Fg RX8 28 8 2 := ⟨_, _, _, _, clX8, by decide, lw_good_in (List.mem_append_right _ (List.mem_of_getElem? (i := 223) (by decide +kernel))) (by decide +kernel)⟩
theorem flX8_28 : sm_Fl RX8 28 8 2 (.object "CaskGauge$Cellar") true := ⟨_, _, _, _, clX8, by decide, rfl, rfl, lw_good_in (List.mem_append_right _ (List.mem_of_getElem? (i := 223) (by decide +kernel))) (by decide +kernel), by decide +kernel⟩
theorem fgX8_35 : sm_Fg RX8 35 8 3 := ⟨_, _, _, _, clX8, by decide, lw_good_in (List.mem_append_right _ (List.mem_of_getElem? (i := 224) (by decide +kernel))) (by decide +kernel)⟩
theorem flX8_35 : sm_Fl RX8 35 8 3 (.object "CaskGauge$Past") true := ⟨_, _, _, _, clX8, by decide, rfl, rfl, lw_good_in (List.mem_append_right _ (List.mem_of_getElem? (i := 224) (by decide +kernel))) (by decide +kernel), by decide +kernel⟩
theorem fgX8_39 : sm_Fg RX8 39 8 4 := ⟨_, _, _, _, clX8, by decide, lw_good_in (List.mem_append_right _ (List.mem_of_getElem? (i := 225) (by decide +kernel))) (by decide +kernel)⟩
theorem flX8_39 : sm_Fl RX8 39 8 4 (.array (.object "CaskGauge$Cellar")) true := ⟨_, _, _, _, clX8, by decide, rfl, rfl, lw_good_in (List.mem_append_right _ (List.mem_of_getElem? (i := 225) (by decide +kernel))) (by decide +kernel), by decide +kernel⟩
theorem fgX8_43 : sm_Fg RX8 43 8 5 := ⟨_, _, _, _, clX8, by decide, lw_good_in (List.mem_append_right _ (List.mem_of_getElem? (i := 226) (by decide +kernel))) (by decide +kernel)⟩
theorem flX8_43 : sm_Fl RX8 43 8 5 (.array .boolean) true := ⟨_, _, _, _, clX8, by decide, rfl, rfl, lw_good_in (List.mem_append_right _ (List.mem_of_getElem? (i := 226) (by decide +kernel))) (by decide +kernel), by decide +kernel⟩
theorem fgX8_50 : sm_Fg RX8 50 8 6 := ⟨_, _, _, _, clX8, by decide, lw_good_in (List.mem_append_right _ (List.mem_of_getElem? (i := 227) (by decide +kernel))) (by decide +kernel)⟩
theorem flX8_50 : sm_Fl RX8 50 8 6 (.object "CaskGauge$Sightings") true := ⟨_, _, _, _, clX8, by decide, rfl, rfl, lw_good_in (List.mem_append_right _ (List.mem_of_getElem? (i := 227) (by decide +kernel))) (by decide +kernel), by decide +kernel⟩
theorem fgX8_56 : sm_Fg RX8 56 8 7 := ⟨_, _, _, _, clX8, by decide, lw_good_in (List.mem_append_right _ (List.mem_of_getElem? (i := 228) (by decide +kernel))) (by decide +kernel)⟩
theorem flX8_56 : sm_Fl RX8 56 8 7 (.array (.object "CaskGauge$Levels")) true := ⟨_, _, _, _, clX8, by decide, rfl, rfl, lw_good_in (List.mem_append_right _ (List.mem_of_getElem? (i := 228) (by decide +kernel))) (by decide +kernel), by decide +kernel⟩
theorem fgX8_60 : sm_Fg RX8 60 8 8 := ⟨_, _, _, _, clX8, by decide, lw_good_in (List.mem_append_right _ (List.mem_of_getElem? (i := 229) (by decide +kernel))) (by decide +kernel)⟩
theorem flX8_60 : sm_Fl RX8 60 8 8 (.array (.object "CaskGauge$Levels")) true := ⟨_, _, _, _, clX8, by decide, rfl, rfl, lw_good_in (List.mem_append_right _ (List.mem_of_getElem? (i := 229) (by decide +kernel))) (by decide +kernel), by decide +kernel⟩
theorem fgX8_69 : sm_Fg RX8 69 8 9 := ⟨_, _, _, _, clX8, by decide, lw_good_in (List.mem_append_right _ (List.mem_of_getElem? (i := 230) (by decide +kernel))) (by decide +kernel)⟩
theorem flX8_69 : sm_Fl RX8 69 8 9 (.object "CaskGauge$Sharing") true := ⟨_, _, _, _, clX8, by decide, rfl, rfl, lw_good_in (List.mem_append_right _ (List.mem_of_getElem? (i := 230) (by decide +kernel))) (by decide +kernel), by decide +kernel⟩
theorem fgX8_73 : sm_Fg RX8 73 8 10 := ⟨_, _, _, _, clX8, by decide, lw_good_in (List.mem_append_right _ (List.mem_of_getElem? (i := 231) (by decide +kernel))) (by decide +kernel)⟩
theorem flX8_73 : sm_Fl RX8 73 8 10 (.array .int) true := ⟨_, _, _, _, clX8, by decide, rfl, rfl, lw_good_in (List.mem_append_right _ (List.mem_of_getElem? (i := 231) (by decide +kernel))) (by decide +kernel), by decide +kernel⟩
theorem mlL_13 : Cond.methodLink RL 13 mX8_type.1 ∈ lw_good := lw_good_in (List.mem_append_right _ (List.mem_of_getElem? (i := 255) (by decide +kernel))) (by decide +kernel)
theorem mlX8_77 : Cond.methodLink RX8 77 mX7_add.1 ∈ lw_good := lw_good_in (List.mem_append_right _ (List.mem_of_getElem? (i := 259) (by decide +kernel))) (by decide +kernel)
theorem mlL_18 : Cond.methodLink RL 18 mX8_clear.1 ∈ lw_good := lw_good_in (List.mem_append_right _ (List.mem_of_getElem? (i := 263) (by decide +kernel))) (by decide +kernel)
theorem mlL_23 : Cond.methodLink RL 23 mX8_tells.1 ∈ lw_good := lw_good_in (List.mem_append_right _ (List.mem_of_getElem? (i := 267) (by decide +kernel))) (by decide +kernel)
theorem mlX8_85 : Cond.methodLink RX8 85 mX4_readAll.1 ∈ lw_good := lw_good_in (List.mem_append_right _ (List.mem_of_getElem? (i := 271) (by decide +kernel))) (by decide +kernel)
theorem mlX4_22 : Cond.methodLink RX4 22 mX7_split.1 ∈ lw_good := lw_good_in (List.mem_append_right _ (List.mem_of_getElem? (i := 275) (by decide +kernel))) (by decide +kernel)
theorem mlX7_28 : Cond.methodLink RX7 28 mX7_goesOn.1 ∈ lw_good := lw_good_in (List.mem_append_right _ (List.mem_of_getElem? (i := 279) (by decide +kernel))) (by decide +kernel)
theorem mlX7_36 : Cond.methodLink RX7 36 mX7_isSmallLetter.1 ∈ lw_good := lw_good_in (List.mem_append_right _ (List.mem_of_getElem? (i := 283) (by decide +kernel))) (by decide +kernel)
theorem mlX7_39 : Cond.methodLink RX7 39 mX7_isFigure.1 ∈ lw_good := lw_good_in (List.mem_append_right _ (List.mem_of_getElem? (i := 286) (by decide +kernel))) (by decide +kernel)
theorem mlX7_32 : Cond.methodLink RX7 32 mX7_putKind.1 ∈ lw_good := lw_good_in (List.mem_append_right _ (List.mem_of_getElem? (i := 289) (by decide +kernel))) (by decide +kernel)
theorem mlX7_42 : Cond.methodLink RX7 42 mX7_kindOfWord.1 ∈ lw_good := lw_good_in (List.mem_append_right _ (List.mem_of_getElem? (i := 293) (by decide +kernel))) (by decide +kernel)
theorem mlX7_54 : Cond.methodLink RX7 54 mX7_isWord.1 ∈ lw_good := lw_good_in (List.mem_append_right _ (List.mem_of_getElem? (i := 298) (by decide +kernel))) (by decide +kernel)
theorem mlX7_60 : Cond.methodLink RX7 60 mJ0_length_8abf5.1 ∈ lw_good := lw_good_in (List.mem_append_right _ (List.mem_of_getElem? (i := 302) (by decide +kernel))) (by decide +kernel)
theorem mlJ0_335 : Cond.methodLink RJ0 335 mJ0_coder_7d493.1 ∈ lw_good := lw_good_in (List.mem_append_right _ (List.mem_of_getElem? (i := 306) (by decide +kernel))) (by decide +kernel)
theorem mlX7_65 : Cond.methodLink RX7 65 mJ0_charAt_5068e.1 ∈ lw_good := lw_good_in (List.mem_append_right _ (List.mem_of_getElem? (i := 312) (by decide +kernel))) (by decide +kernel)
theorem mlJ0_492 : Cond.methodLink RJ0 492 mJ0_isLatin1_aae02.1 ∈ lw_good := lw_good_in (List.mem_append_right _ (List.mem_of_getElem? (i := 316) (by decide +kernel))) (by decide +kernel)
theorem mlJ0_495 : Cond.methodLink RJ0 495 mJ1_charAt_3b067.1 ∈ lw_good := lw_good_in (List.mem_append_right _ (List.mem_of_getElem? (i := 320) (by decide +kernel))) (by decide +kernel)
theorem mlJ1_9 : Cond.methodLink RJ1 9 mJ0_checkIndex_df160.1 ∈ lw_good := lw_good_in (List.mem_append_right _ (List.mem_of_getElem? (i := 323) (by decide +kernel))) (by decide +kernel)
theorem mlJ0_1059 : Cond.methodLink RJ0 1059 mJ3_checkIndex_8e157.1 ∈ lw_good := lw_good_in (List.mem_append_right _ (List.mem_of_getElem? (i := 328) (by decide +kernel))) (by decide +kernel)
theorem mlJ0_498 : Cond.methodLink RJ0 498 mJ2_charAt_3b067.1 ∈ lw_good := lw_good_in (List.mem_append_right _ (List.mem_of_getElem? (i := 331) (by decide +kernel))) (by decide +kernel)
theorem mlJ2_67 : Cond.methodLink RJ2 67 mJ2_checkIndex_2214a.1 ∈ lw_good := lw_good_in (List.mem_append_right _ (List.mem_of_getElem? (i := 334) (by decide +kernel))) (by decide +kernel)
theorem mlJ2_48 : Cond.methodLink RJ2 48 mJ2_length_9d52b.1 ∈ lw_good := lw_good_in (List.mem_append_right _ (List.mem_of_getElem? (i := 337) (by decide +kernel))) (by decide +kernel)
theorem mlJ2_414 : Cond.methodLink RJ2 414 mJ0_checkIndex_df160.1 ∈ lw_good := lw_good_in (List.mem_append_right _ (List.mem_of_getElem? (i := 340) (by decide +kernel))) (by decide +kernel)
theorem mlJ2_71 : Cond.methodLink RJ2 71 mJ2_getChar_3b067.1 ∈ lw_good := lw_good_in (List.mem_append_right _ (List.mem_of_getElem? (i := 341) (by decide +kernel))) (by decide +kernel)
theorem mlX7_46 : Cond.methodLink RX7 46 mX7_kindOfNumber.1 ∈ lw_good := lw_good_in (List.mem_append_right _ (List.mem_of_getElem? (i := 351) (by decide +kernel))) (by decide +kernel)
theorem mlX7_49 : Cond.methodLink RX7 49 mX7_valueOf.1 ∈ lw_good := lw_good_in (List.mem_append_right _ (List.mem_of_getElem? (i := 355) (by decide +kernel))) (by decide +kernel)
theorem mlX4_27 : Cond.methodLink RX4 27 mX1_empty.1 ∈ lw_good := lw_good_in (List.mem_append_right _ (List.mem_of_getElem? (i := 359) (by decide +kernel))) (by decide +kernel)
theorem mlX4_41 : Cond.methodLink RX4 41 mX4_readItem.1 ∈ lw_good := lw_good_in (List.mem_append_right _ (List.mem_of_getElem? (i := 363) (by decide +kernel))) (by decide +kernel)
theorem mlX4_51 : Cond.methodLink RX4 51 mX4_readCask.1 ∈ lw_good := lw_good_in (List.mem_append_right _ (List.mem_of_getElem? (i := 367) (by decide +kernel))) (by decide +kernel)
theorem mlX4_57 : Cond.methodLink RX4 57 mX4_readNumber.1 ∈ lw_good := lw_good_in (List.mem_append_right _ (List.mem_of_getElem? (i := 371) (by decide +kernel))) (by decide +kernel)
theorem mlX4_85 : Cond.methodLink RX4 85 mX4_step.1 ∈ lw_good := lw_good_in (List.mem_append_right _ (List.mem_of_getElem? (i := 375) (by decide +kernel))) (by decide +kernel)
theorem mlX4_64 : Cond.methodLink RX4 64 mX4_readItemEnd.1 ∈ lw_good := lw_good_in (List.mem_append_right _ (List.mem_of_getElem? (i := 379) (by decide +kernel))) (by decide +kernel)
theorem mlX4_67 : Cond.methodLink RX4 67 mX1_add.1 ∈ lw_good := lw_good_in (List.mem_append_right _ (List.mem_of_getElem? (i := 383) (by decide +kernel))) (by decide +kernel)
theorem mlX1_22 : Cond.methodLink RX1 22 mX0_becomeNew.1 ∈ lw_good := lw_good_in (List.mem_append_right _ (List.mem_of_getElem? (i := 387) (by decide +kernel))) (by decide +kernel)
theorem mlX4_54 : Cond.methodLink RX4 54 mX4_readStands.1 ∈ lw_good := lw_good_in (List.mem_append_right _ (List.mem_of_getElem? (i := 391) (by decide +kernel))) (by decide +kernel)
theorem mlX4_71 : Cond.methodLink RX4 71 mX1_has.1 ∈ lw_good := lw_good_in (List.mem_append_right _ (List.mem_of_getElem? (i := 395) (by decide +kernel))) (by decide +kernel)
theorem mlX8_89 : Cond.methodLink RX8 89 mX4_faultPlace.1 ∈ lw_good := lw_good_in (List.mem_append_right _ (List.mem_of_getElem? (i := 399) (by decide +kernel))) (by decide +kernel)
theorem mlX8_93 : Cond.methodLink RX8 93 mX3_remember.1 ∈ lw_good := lw_good_in (List.mem_append_right _ (List.mem_of_getElem? (i := 403) (by decide +kernel))) (by decide +kernel)
theorem mlX3_22 : Cond.methodLink RX3 22 mX1_copyFrom.1 ∈ lw_good := lw_good_in (List.mem_append_right _ (List.mem_of_getElem? (i := 407) (by decide +kernel))) (by decide +kernel)
theorem mlX1_26 : Cond.methodLink RX1 26 mX0_copyFrom.1 ∈ lw_good := lw_good_in (List.mem_append_right _ (List.mem_of_getElem? (i := 411) (by decide +kernel))) (by decide +kernel)
theorem mlX3_29 : Cond.methodLink RX3 29 mJ9_min_7cf53.1 ∈ lw_good := lw_good_in (List.mem_append_right _ (List.mem_of_getElem? (i := 415) (by decide +kernel))) (by decide +kernel)
theorem mlX8_100 : Cond.methodLink RX8 100 mX1_copyFrom.1 ∈ lw_good := lw_good_in (List.mem_append_right _ (List.mem_of_getElem? (i := 418) (by decide +kernel))) (by decide +kernel)
theorem ac_byte : Cond.arrayClass .byte ∈ lw_good := lw_good_in (List.mem_append_right _ (List.mem_of_getElem? (i := 419) (by decide +kernel))) (by decide +kernel)
theorem mlL_27 : Cond.methodLink RL 27 mX8_fills.1 ∈ lw_good := lw_good_in (List.mem_append_right _ (List.mem_of_getElem? (i := 420) (by decide +kernel))) (by decide +kernel)
theorem mlX8_106 : Cond.methodLink RX8 106 mX1_has.1 ∈ lw_good := lw_good_in (List.mem_append_right _ (List.mem_of_getElem? (i := 424) (by decide +kernel))) (by decide +kernel)
theorem mlX8_109 : Cond.methodLink RX8 109 mX8_roomIn.1 ∈ lw_good := lw_good_in (List.mem_append_right _ (List.mem_of_getElem? (i := 425) (by decide +kernel))) (by decide +kernel)
theorem mlX8_149 : Cond.methodLink RX8 149 mX8_levelsOf.1 ∈ lw_good := lw_good_in (List.mem_append_right _ (List.mem_of_getElem? (i := 429) (by decide +kernel))) (by decide +kernel)
theorem mlX8_217 : Cond.methodLink RX8 217 mX8_lyingLevelsOf.1 ∈ lw_good := lw_good_in (List.mem_append_right _ (List.mem_of_getElem? (i := 433) (by decide +kernel))) (by decide +kernel)
theorem mlX8_247 : Cond.methodLink RX8 247 mX2_measure.1 ∈ lw_good := lw_good_in (List.mem_append_right _ (List.mem_of_getElem? (i := 437) (by decide +kernel))) (by decide +kernel)
theorem mlX2_34 : Cond.methodLink RX2 34 mJ9_min_7cf53.1 ∈ lw_good := lw_good_in (List.mem_append_right _ (List.mem_of_getElem? (i := 441) (by decide +kernel))) (by decide +kernel)
theorem mlX2_43 : Cond.methodLink RX2 43 mX0_radiusOf.1 ∈ lw_good := lw_good_in (List.mem_append_right _ (List.mem_of_getElem? (i := 442) (by decide +kernel))) (by decide +kernel)
theorem mlX2_47 : Cond.methodLink RX2 47 mX0_cellsOf.1 ∈ lw_good := lw_good_in (List.mem_append_right _ (List.mem_of_getElem? (i := 446) (by decide +kernel))) (by decide +kernel)
theorem mlX2_50 : Cond.methodLink RX2 50 mX2_addAhead.1 ∈ lw_good := lw_good_in (List.mem_append_right _ (List.mem_of_getElem? (i := 450) (by decide +kernel))) (by decide +kernel)
theorem mlX2_54 : Cond.methodLink RX2 54 mX2_reach.1 ∈ lw_good := lw_good_in (List.mem_append_right _ (List.mem_of_getElem? (i := 454) (by decide +kernel))) (by decide +kernel)
theorem mlX8_153 : Cond.methodLink RX8 153 mX2_hold.1 ∈ lw_good := lw_good_in (List.mem_append_right _ (List.mem_of_getElem? (i := 458) (by decide +kernel))) (by decide +kernel)
theorem mlX2_58 : Cond.methodLink RX2 58 mX2_amountAt.1 ∈ lw_good := lw_good_in (List.mem_append_right _ (List.mem_of_getElem? (i := 462) (by decide +kernel))) (by decide +kernel)
theorem mlX8_117 : Cond.methodLink RX8 117 mX0_takeIn.1 ∈ lw_good := lw_good_in (List.mem_append_right _ (List.mem_of_getElem? (i := 466) (by decide +kernel))) (by decide +kernel)
theorem mlL_32 : Cond.methodLink RL 32 mX8_draws.1 ∈ lw_good := lw_good_in (List.mem_append_right _ (List.mem_of_getElem? (i := 470) (by decide +kernel))) (by decide +kernel)
theorem mlX8_126 : Cond.methodLink RX8 126 mX0_giveOut.1 ∈ lw_good := lw_good_in (List.mem_append_right _ (List.mem_of_getElem? (i := 474) (by decide +kernel))) (by decide +kernel)
theorem mlL_37 : Cond.methodLink RL 37 mX8_pours.1 ∈ lw_good := lw_good_in (List.mem_append_right _ (List.mem_of_getElem? (i := 478) (by decide +kernel))) (by decide +kernel)
theorem mlL_41 : Cond.methodLink RL 41 mX8_turnsOver.1 ∈ lw_good := lw_good_in (List.mem_append_right _ (List.mem_of_getElem? (i := 482) (by decide +kernel))) (by decide +kernel)
theorem mlL_45 : Cond.methodLink RL 45 mX8_undo.1 ∈ lw_good := lw_good_in (List.mem_append_right _ (List.mem_of_getElem? (i := 486) (by decide +kernel))) (by decide +kernel)
theorem mlX8_133 : Cond.methodLink RX8 133 mX3_recallInto.1 ∈ lw_good := lw_good_in (List.mem_append_right _ (List.mem_of_getElem? (i := 490) (by decide +kernel))) (by decide +kernel)
theorem mlL_49 : Cond.methodLink RL 49 mX8_cask.1 ∈ lw_good := lw_good_in (List.mem_append_right _ (List.mem_of_getElem? (i := 494) (by decide +kernel))) (by decide +kernel)
theorem mlX8_159 : Cond.methodLink RX8 159 mX2_leastDip.1 ∈ lw_good := lw_good_in (List.mem_append_right _ (List.mem_of_getElem? (i := 498) (by decide +kernel))) (by decide +kernel)
theorem mlX2_61 : Cond.methodLink RX2 61 mX2_leastDipFrom.1 ∈ lw_good := lw_good_in (List.mem_append_right _ (List.mem_of_getElem? (i := 502) (by decide +kernel))) (by decide +kernel)
theorem mlX2_64 : Cond.methodLink RX2 64 mJ9_max_7cf53.1 ∈ lw_good := lw_good_in (List.mem_append_right _ (List.mem_of_getElem? (i := 506) (by decide +kernel))) (by decide +kernel)
theorem mlX8_162 : Cond.methodLink RX8 162 mX0_strength.1 ∈ lw_good := lw_good_in (List.mem_append_right _ (List.mem_of_getElem? (i := 509) (by decide +kernel))) (by decide +kernel)
theorem mlX8_166 : Cond.methodLink RX8 166 mX8_inThousandths.1 ∈ lw_good := lw_good_in (List.mem_append_right _ (List.mem_of_getElem? (i := 513) (by decide +kernel))) (by decide +kernel)
theorem kfX8_251 : Cond.constantFloat RX8 251 1148846080 ∈ lw_good := lw_good_in (List.mem_append_right _ (List.mem_of_getElem? (i := 516) (by decide +kernel))) (by decide +kernel)
theorem mlL_53 : Cond.methodLink RL 53 mX8_slice.1 ∈ lw_good := lw_good_in (List.mem_append_right _ (List.mem_of_getElem? (i := 517) (by decide +kernel))) (by decide +kernel)
theorem mlX8_170 : Cond.methodLink RX8 170 mX0_radiusOf.1 ∈ lw_good := lw_good_in (List.mem_append_right _ (List.mem_of_getElem? (i := 521) (by decide +kernel))) (by decide +kernel)
theorem mlX8_173 : Cond.methodLink RX8 173 mX0_cellsOf.1 ∈ lw_good := lw_good_in (List.mem_append_right _ (List.mem_of_getElem? (i := 522) (by decide +kernel))) (by decide +kernel)
theorem mlL_57 : Cond.methodLink RL 57 mX8_under.1 ∈ lw_good := lw_good_in (List.mem_append_right _ (List.mem_of_getElem? (i := 523) (by decide +kernel))) (by decide +kernel)
theorem mlX8_177 : Cond.methodLink RX8 177 mX2_reach.1 ∈ lw_good := lw_good_in (List.mem_append_right _ (List.mem_of_getElem? (i := 527) (by decide +kernel))) (by decide +kernel)
theorem mlX8_180 : Cond.methodLink RX8 180 mX2_amountAt.1 ∈ lw_good := lw_good_in (List.mem_append_right _ (List.mem_of_getElem? (i := 528) (by decide +kernel))) (by decide +kernel)
theorem mlL_61 : Cond.methodLink RL 61 mX8_dip.1 ∈ lw_good := lw_good_in (List.mem_append_right _ (List.mem_of_getElem? (i := 529) (by decide +kernel))) (by decide +kernel)
theorem mlL_65 : Cond.methodLink RL 65 mX8_stick.1 ∈ lw_good := lw_good_in (List.mem_append_right _ (List.mem_of_getElem? (i := 533) (by decide +kernel))) (by decide +kernel)
theorem mlX8_183 : Cond.methodLink RX8 183 mX2_markAt.1 ∈ lw_good := lw_good_in (List.mem_append_right _ (List.mem_of_getElem? (i := 537) (by decide +kernel))) (by decide +kernel)
theorem mlX2_67 : Cond.methodLink RX2 67 mX2_hold.1 ∈ lw_good := lw_good_in (List.mem_append_right _ (List.mem_of_getElem? (i := 541) (by decide +kernel))) (by decide +kernel)
theorem mlL_69 : Cond.methodLink RL 69 mX8_known.1 ∈ lw_good := lw_good_in (List.mem_append_right _ (List.mem_of_getElem? (i := 542) (by decide +kernel))) (by decide +kernel)
theorem mlL_73 : Cond.methodLink RL 73 mX8_shares.1 ∈ lw_good := lw_good_in (List.mem_append_right _ (List.mem_of_getElem? (i := 546) (by decide +kernel))) (by decide +kernel)
theorem mlX8_186 : Cond.methodLink RX8 186 mX5_findFairest.1 ∈ lw_good := lw_good_in (List.mem_append_right _ (List.mem_of_getElem? (i := 550) (by decide +kernel))) (by decide +kernel)
theorem mlX5_15 : Cond.methodLink RX5 15 mX2_leastDip.1 ∈ lw_good := lw_good_in (List.mem_append_right _ (List.mem_of_getElem? (i := 554) (by decide +kernel))) (by decide +kernel)
theorem mlX5_21 : Cond.methodLink RX5 21 mJ9_min_7cf53.1 ∈ lw_good := lw_good_in (List.mem_append_right _ (List.mem_of_getElem? (i := 555) (by decide +kernel))) (by decide +kernel)
theorem mlX5_27 : Cond.methodLink RX5 27 mX5_weigh.1 ∈ lw_good := lw_good_in (List.mem_append_right _ (List.mem_of_getElem? (i := 556) (by decide +kernel))) (by decide +kernel)
theorem mlX5_31 : Cond.methodLink RX5 31 mX2_amountAt.1 ∈ lw_good := lw_good_in (List.mem_append_right _ (List.mem_of_getElem? (i := 560) (by decide +kernel))) (by decide +kernel)
theorem mlX5_34 : Cond.methodLink RX5 34 mJ9_max_7cf53.1 ∈ lw_good := lw_good_in (List.mem_append_right _ (List.mem_of_getElem? (i := 561) (by decide +kernel))) (by decide +kernel)
theorem mlL_77 : Cond.methodLink RL 77 mX8_all.1 ∈ lw_good := lw_good_in (List.mem_append_right _ (List.mem_of_getElem? (i := 562) (by decide +kernel))) (by decide +kernel)
theorem mlX8_205 : Cond.methodLink RX8 205 mX1_strongest.1 ∈ lw_good := lw_good_in (List.mem_append_right _ (List.mem_of_getElem? (i := 566) (by decide +kernel))) (by decide +kernel)
theorem mlX1_36 : Cond.methodLink RX1 36 mX0_strength.1 ∈ lw_good := lw_good_in (List.mem_append_right _ (List.mem_of_getElem? (i := 570) (by decide +kernel))) (by decide +kernel)
theorem mlX8_208 : Cond.methodLink RX8 208 mX1_meanStrength.1 ∈ lw_good := lw_good_in (List.mem_append_right _ (List.mem_of_getElem? (i := 571) (by decide +kernel))) (by decide +kernel)
theorem mlL_81 : Cond.methodLink RL 81 mX8_sees.1 ∈ lw_good := lw_good_in (List.mem_append_right _ (List.mem_of_getElem? (i := 575) (by decide +kernel))) (by decide +kernel)
theorem kcX8_211 : Cond.constant RX8 211 99999 ∈ lw_good := lw_good_in (List.mem_append_right _ (List.mem_of_getElem? (i := 579) (by decide +kernel))) (by decide +kernel)
theorem mlX8_212 : Cond.methodLink RX8 212 mX6_add.1 ∈ lw_good := lw_good_in (List.mem_append_right _ (List.mem_of_getElem? (i := 580) (by decide +kernel))) (by decide +kernel)
theorem mlL_85 : Cond.methodLink RL 85 mX8_forget.1 ∈ lw_good := lw_good_in (List.mem_append_right _ (List.mem_of_getElem? (i := 584) (by decide +kernel))) (by decide +kernel)
theorem mlL_89 : Cond.methodLink RL 89 mX8_which.1 ∈ lw_good := lw_good_in (List.mem_append_right _ (List.mem_of_getElem? (i := 588) (by decide +kernel))) (by decide +kernel)
theorem mlX8_220 : Cond.methodLink RX8 220 mX6_fits.1 ∈ lw_good := lw_good_in (List.mem_append_right _ (List.mem_of_getElem? (i := 592) (by decide +kernel))) (by decide +kernel)
theorem mlX6_22 : Cond.methodLink RX6 22 mX2_leastDip.1 ∈ lw_good := lw_good_in (List.mem_append_right _ (List.mem_of_getElem? (i := 596) (by decide +kernel))) (by decide +kernel)
theorem mlL_93 : Cond.methodLink RL 93 mX8_ask.1 ∈ lw_good := lw_good_in (List.mem_append_right _ (List.mem_of_getElem? (i := 597) (by decide +kernel))) (by decide +kernel)
theorem mlX8_224 : Cond.methodLink RX8 224 mX8_which.1 ∈ lw_good := lw_good_in (List.mem_append_right _ (List.mem_of_getElem? (i := 601) (by decide +kernel))) (by decide +kernel)
theorem mlX8_227 : Cond.methodLink RX8 227 mJ6_bitCount_0f7a4.1 ∈ lw_good := lw_good_in (List.mem_append_right _ (List.mem_of_getElem? (i := 602) (by decide +kernel))) (by decide +kernel)
theorem kcJ6_265 : Cond.constant RJ6 265 1431655765 ∈ lw_good := lw_good_in (List.mem_append_right _ (List.mem_of_getElem? (i := 605) (by decide +kernel))) (by decide +kernel)
theorem kcJ6_266 : Cond.constant RJ6 266 858993459 ∈ lw_good := lw_good_in (List.mem_append_right _ (List.mem_of_getElem? (i := 606) (by decide +kernel))) (by decide +kernel)
theorem kcJ6_267 : Cond.constant RJ6 267 252645135 ∈ lw_good := lw_good_in (List.mem_append_right _ (List.mem_of_getElem? (i := 607) (by decide +kernel))) (by decide +kernel)
theorem mlX8_232 : Cond.methodLink RX8 232 mX8_startAsking.1 ∈ lw_good := lw_good_in (List.mem_append_right _ (List.mem_of_getElem? (i := 608) (by decide +kernel))) (by decide +kernel)
theorem mlX8_235 : Cond.methodLink RX8 235 mX8_mostAlike.1 ∈ lw_good := lw_good_in (List.mem_append_right _ (List.mem_of_getElem? (i := 612) (by decide +kernel))) (by decide +kernel)
theorem mlX8_255 : Cond.methodLink RX8 255 mJ9_max_7cf53.1 ∈ lw_good := lw_good_in (List.mem_append_right _ (List.mem_of_getElem? (i := 616) (by decide +kernel))) (by decide +kernel)
theorem mlX8_238 : Cond.methodLink RX8 238 mX8_raiseAskedDips.1 ∈ lw_good := lw_good_in (List.mem_append_right _ (List.mem_of_getElem? (i := 617) (by decide +kernel))) (by decide +kernel)
theorem mlX8_252 : Cond.methodLink RX8 252 mX2_leastDipFrom.1 ∈ lw_good := lw_good_in (List.mem_append_right _ (List.mem_of_getElem? (i := 621) (by decide +kernel))) (by decide +kernel)
theorem mlL_97 : Cond.methodLink RL 97 mX8_keep.1 ∈ lw_good := lw_good_in (List.mem_append_right _ (List.mem_of_getElem? (i := 622) (by decide +kernel))) (by decide +kernel)
theorem mlL_101 : Cond.methodLink RL 101 mX8_back.1 ∈ lw_good := lw_good_in (List.mem_append_right _ (List.mem_of_getElem? (i := 626) (by decide +kernel))) (by decide +kernel)
theorem mlL_105 : Cond.methodLink RL 105 mX8_count.1 ∈ lw_good := lw_good_in (List.mem_append_right _ (List.mem_of_getElem? (i := 630) (by decide +kernel))) (by decide +kernel)
theorem mlX8_241 : Cond.methodLink RX8 241 mX1_allWine.1 ∈ lw_good := lw_good_in (List.mem_append_right _ (List.mem_of_getElem? (i := 634) (by decide +kernel))) (by decide +kernel)
theorem mlX8_244 : Cond.methodLink RX8 244 mX1_allSpirit.1 ∈ lw_good := lw_good_in (List.mem_append_right _ (List.mem_of_getElem? (i := 638) (by decide +kernel))) (by decide +kernel)
theorem cnL_10 : Cond.classLink RL 10 RX9 ∈ lw_good := lw_good_in (List.mem_append_right _ (List.mem_of_getElem? (i := 642) (by decide +kernel))) (by decide +kernel)
theorem isX9 : Cond.instantiable RX9 21 ∈ lw_good := lw_good_in (List.mem_append_right _ (List.mem_of_getElem? (i := 643) (by decide +kernel))) (by decide +kernel)
theorem mlL_12 : Cond.methodLink RL 12 mX9_init.1 ∈ lw_good := lw_good_in (List.mem_append_right _ (List.mem_of_getElem? (i := 644) (by decide +kernel))) (by decide +kernel)
theorem mlX9_1 : Cond.methodLink RX9 1 objectInit ∈ lw_good := lw_good_in (List.mem_append_right _ (List.mem_of_getElem? (i := 647) (by decide +kernel))) (by decide +kernel)
theorem fgX9_39 : sm_Fg RX9 39 9 0 := ⟨_, _, _, _, clX9, by decide, lw_good_in (List.mem_append_right _ (List.mem_of_getElem? (i := 648) (by decide +kernel))) (by decide +kernel)⟩
theorem flX9_39 : sm_Fl RX9 39 9 0 (.int) false := ⟨_, _, _, _, clX9, by decide, rfl, rfl, lw_good_in (List.mem_append_right _ (List.mem_of_getElem? (i := 648) (by decide +kernel))) (by decide +kernel), by decide +kernel⟩
theorem fgX9_7 : sm_Fg RX9 7 9 1 := ⟨_, _, _, _, clX9, by decide, lw_good_in (List.mem_append_right _ (List.mem_of_getElem? (i := 649) (by decide +kernel))) (by decide +kernel)⟩
theorem flX9_7 : sm_Fl RX9 7 9 1 (.array .int) true := ⟨_, _, _, _, clX9, by decide, rfl, rfl, lw_good_in (List.mem_append_right _ (List.mem_of_getElem? (i := 649) (by decide +kernel))) (by decide +kernel), by decide +kernel⟩
theorem fgX9_13 : sm_Fg RX9 13 9 2 := ⟨_, _, _, _, clX9, by decide, lw_good_in (List.mem_append_right _ (List.mem_of_getElem? (i := 650) (by decide +kernel))) (by decide +kernel)⟩
theorem flX9_13 : sm_Fl RX9 13 9 2 (.array .int) true := ⟨_, _, _, _, clX9, by decide, rfl, rfl, lw_good_in (List.mem_append_right _ (List.mem_of_getElem? (i := 650) (by decide +kernel))) (by decide +kernel), by decide +kernel⟩
theorem fgX9_16 : sm_Fg RX9 16 9 3 := ⟨_, _, _, _, clX9, by decide, lw_good_in (List.mem_append_right _ (List.mem_of_getElem? (i := 651) (by decide +kernel))) (by decide +kernel)⟩
theorem flX9_16 : sm_Fl RX9 16 9 3 (.array .int) true := ⟨_, _, _, _, clX9, by decide, rfl, rfl, lw_good_in (List.mem_append_right _ (List.mem_of_getElem? (i := 651) (by decide +kernel))) (by decide +kernel), by decide +kernel⟩
theorem fgX9_124 : sm_Fg RX9 124 9 4 := ⟨_, _, _, _, clX9, by decide, lw_good_in (List.mem_append_right _ (List.mem_of_getElem? (i := 652) (by decide +kernel))) (by decide +kernel)⟩
theorem flX9_124 : sm_Fl RX9 124 9 4 (.int) false := ⟨_, _, _, _, clX9, by decide, rfl, rfl, lw_good_in (List.mem_append_right _ (List.mem_of_getElem? (i := 652) (by decide +kernel))) (by decide +kernel), by decide +kernel⟩
theorem fgX9_19 : sm_Fg RX9 19 9 5 := ⟨_, _, _, _, clX9, by decide, lw_good_in (List.mem_append_right _ (List.mem_of_getElem? (i := 653) (by decide +kernel))) (by decide +kernel)⟩
theorem flX9_19 : sm_Fl RX9 19 9 5 (.array .int) true := ⟨_, _, _, _, clX9, by decide, rfl, rfl, lw_good_in (List.mem_append_right _ (List.mem_of_getElem? (i := 653) (by decide +kernel))) (by decide +kernel), by decide +kernel⟩
theorem fgX9_22 : sm_Fg RX9 22 9 6 := ⟨_, _, _, _, clX9, by decide, lw_good_in (List.mem_append_right _ (List.mem_of_getElem? (i := 654) (by decide +kernel))) (by decide +kernel)⟩
theorem flX9_22 : sm_Fl RX9 22 9 6 (.array .boolean) true := ⟨_, _, _, _, clX9, by decide, rfl, rfl, lw_good_in (List.mem_append_right _ (List.mem_of_getElem? (i := 654) (by decide +kernel))) (by decide +kernel), by decide +kernel⟩
theorem fgX9_26 : sm_Fg RX9 26 9 7 := ⟨_, _, _, _, clX9, by decide, lw_good_in (List.mem_append_right _ (List.mem_of_getElem? (i := 655) (by decide +kernel))) (by decide +kernel)⟩
theorem flX9_26 : sm_Fl RX9 26 9 7 (.array .int) true := ⟨_, _, _, _, clX9, by decide, rfl, rfl, lw_good_in (List.mem_append_right _ (List.mem_of_getElem? (i := 655) (by decide +kernel))) (by decide +kernel), by decide +kernel⟩
theorem fgX9_165 : sm_Fg RX9 165 9 8 := ⟨_, _, _, _, clX9, by decide, lw_good_in (List.mem_append_right _ (List.mem_of_getElem? (i := 656) (by decide +kernel))) (by decide +kernel)⟩
theorem flX9_165 : sm_Fl RX9 165 9 8 (.int) false := ⟨_, _, _, _, clX9, by decide, rfl, rfl, lw_good_in (List.mem_append_right _ (List.mem_of_getElem? (i := 656) (by decide +kernel))) (by decide +kernel), by decide +kernel⟩
theorem fgX9_29 : sm_Fg RX9 29 9 9 := ⟨_, _, _, _, clX9, by decide, lw_good_in (List.mem_append_right _ (List.mem_of_getElem? (i := 657) (by decide +kernel))) (by decide +kernel)⟩
theorem flX9_29 : sm_Fl RX9 29 9 9 (.array .byte) true := ⟨_, _, _, _, clX9, by decide, rfl, rfl, lw_good_in (List.mem_append_right _ (List.mem_of_getElem? (i := 657) (by decide +kernel))) (by decide +kernel), by decide +kernel⟩
theorem fgX9_47 : sm_Fg RX9 47 9 10 := ⟨_, _, _, _, clX9, by decide, lw_good_in (List.mem_append_right _ (List.mem_of_getElem? (i := 658) (by decide +kernel))) (by decide +kernel)⟩
theorem flX9_47 : sm_Fl RX9 47 9 10 (.int) false := ⟨_, _, _, _, clX9, by decide, rfl, rfl, lw_good_in (List.mem_append_right _ (List.mem_of_getElem? (i := 658) (by decide +kernel))) (by decide +kernel), by decide +kernel⟩
theorem fgX9_53 : sm_Fg RX9 53 9 11 := ⟨_, _, _, _, clX9, by decide, lw_good_in (List.mem_append_right _ (List.mem_of_getElem? (i := 659) (by decide +kernel))) (by decide +kernel)⟩
theorem flX9_53 : sm_Fl RX9 53 9 11 (.int) false := ⟨_, _, _, _, clX9, by decide, rfl, rfl, lw_good_in (List.mem_append_right _ (List.mem_of_getElem? (i := 659) (by decide +kernel))) (by decide +kernel), by decide +kernel⟩
theorem fgX9_50 : sm_Fg RX9 50 9 12 := ⟨_, _, _, _, clX9, by decide, lw_good_in (List.mem_append_right _ (List.mem_of_getElem? (i := 660) (by decide +kernel))) (by decide +kernel)⟩
theorem flX9_50 : sm_Fl RX9 50 9 12 (.int) false := ⟨_, _, _, _, clX9, by decide, rfl, rfl, lw_good_in (List.mem_append_right _ (List.mem_of_getElem? (i := 660) (by decide +kernel))) (by decide +kernel), by decide +kernel⟩
theorem fgX9_63 : sm_Fg RX9 63 9 13 := ⟨_, _, _, _, clX9, by decide, lw_good_in (List.mem_append_right _ (List.mem_of_getElem? (i := 661) (by decide +kernel))) (by decide +kernel)⟩
theorem flX9_63 : sm_Fl RX9 63 9 13 (.int) false := ⟨_, _, _, _, clX9, by decide, rfl, rfl, lw_good_in (List.mem_append_right _ (List.mem_of_getElem? (i := 661) (by decide +kernel))) (by decide +kernel), by decide +kernel⟩
theorem fgX9_60 : sm_Fg RX9 60 9 14 := ⟨_, _, _, _, clX9, by decide, lw_good_in (List.mem_append_right _ (List.mem_of_getElem? (i := 662) (by decide +kernel))) (by decide +kernel)⟩
theorem flX9_60 : sm_Fl RX9 60 9 14 (.int) false := ⟨_, _, _, _, clX9, by decide, rfl, rfl, lw_good_in (List.mem_append_right _ (List.mem_of_getElem? (i := 662) (by decide +kernel))) (by decide +kernel), by decide +kernel⟩
theorem fgX9_76 : sm_Fg RX9 76 9 15 := ⟨_, _, _, _, clX9, by decide, lw_good_in (List.mem_append_right _ (List.mem_of_getElem? (i := 663) (by decide +kernel))) (by decide +kernel)⟩
theorem flX9_76 : sm_Fl RX9 76 9 15 (.int) false := ⟨_, _, _, _, clX9, by decide, rfl, rfl, lw_good_in (List.mem_append_right _ (List.mem_of_getElem? (i := 663) (by decide +kernel))) (by decide +kernel), by decide +kernel⟩
theorem fgX9_33 : sm_Fg RX9 33 9 16 := ⟨_, _, _, _, clX9, by decide, lw_good_in (List.mem_append_right _ (List.mem_of_getElem? (i := 664) (by decide +kernel))) (by decide +kernel)⟩
theorem flX9_33 : sm_Fl RX9 33 9 16 (.array .int) true := ⟨_, _, _, _, clX9, by decide, rfl, rfl, lw_good_in (List.mem_append_right _ (List.mem_of_getElem? (i := 664) (by decide +kernel))) (by decide +kernel), by decide +kernel⟩
theorem fgX9_109 : sm_Fg RX9 109 9 17 := ⟨_, _, _, _, clX9, by decide, lw_good_in (List.mem_append_right _ (List.mem_of_getElem? (i := 665) (by decide +kernel))) (by decide +kernel)⟩
theorem flX9_109 : sm_Fl RX9 109 9 17 (.int) false := ⟨_, _, _, _, clX9, by decide, rfl, rfl, lw_good_in (List.mem_append_right _ (List.mem_of_getElem? (i := 665) (by decide +kernel))) (by decide +kernel), by decide +kernel⟩
theorem fgX9_149 : sm_Fg RX9 149 9 18 := ⟨_, _, _, _, clX9, by decide, lw_good_in (List.mem_append_right _ (List.mem_of_getElem? (i := 666) (by decide +kernel))) (by decide +kernel)⟩
theorem flX9_149 : sm_Fl RX9 149 9 18 (.int) false := ⟨_, _, _, _, clX9, by decide, rfl, rfl, lw_good_in (List.mem_append_right _ (List.mem_of_getElem? (i := 666) (by decide +kernel))) (by decide +kernel), by decide +kernel⟩
theorem fgX9_152 : sm_Fg RX9 152 9 19 := ⟨_, _, _, _, clX9, by decide, lw_good_in (List.mem_append_right _ (List.mem_of_getElem? (i := 667) (by decide +kernel))) (by decide +kernel)⟩
theorem flX9_152 : sm_Fl RX9 152 9 19 (.int) false := ⟨_, _, _, _, clX9, by decide, rfl, rfl, lw_good_in (List.mem_append_right _ (List.mem_of_getElem? (i := 667) (by decide +kernel))) (by decide +kernel), by decide +kernel⟩
theorem fgX9_36 : sm_Fg RX9 36 9 20 := ⟨_, _, _, _, clX9, by decide, lw_good_in (List.mem_append_right _ (List.mem_of_getElem? (i := 668) (by decide +kernel))) (by decide +kernel)⟩
theorem flX9_36 : sm_Fl RX9 36 9 20 (.array .int) true := ⟨_, _, _, _, clX9, by decide, rfl, rfl, lw_good_in (List.mem_append_right _ (List.mem_of_getElem? (i := 668) (by decide +kernel))) (by decide +kernel), by decide +kernel⟩
theorem mlL_17 : Cond.methodLink RL 17 mX9_type.1 ∈ lw_good := lw_good_in (List.mem_append_right _ (List.mem_of_getElem? (i := 712) (by decide +kernel))) (by decide +kernel)
theorem mlX9_43 : Cond.methodLink RX9 43 mX9_in.1 ∈ lw_good := lw_good_in (List.mem_append_right _ (List.mem_of_getElem? (i := 716) (by decide +kernel))) (by decide +kernel)
theorem mlL_22 : Cond.methodLink RL 22 mX9_clear.1 ∈ lw_good := lw_good_in (List.mem_append_right _ (List.mem_of_getElem? (i := 719) (by decide +kernel))) (by decide +kernel)
theorem mlL_26 : Cond.methodLink RL 26 mX9_tells.1 ∈ lw_good := lw_good_in (List.mem_append_right _ (List.mem_of_getElem? (i := 723) (by decide +kernel))) (by decide +kernel)
theorem mlX9_96 : Cond.methodLink RX9 96 mX9_reads.1 ∈ lw_good := lw_good_in (List.mem_append_right _ (List.mem_of_getElem? (i := 727) (by decide +kernel))) (by decide +kernel)
theorem mlX9_79 : Cond.methodLink RX9 79 mX9_steps.1 ∈ lw_good := lw_good_in (List.mem_append_right _ (List.mem_of_getElem? (i := 731) (by decide +kernel))) (by decide +kernel)
theorem mlX9_56 : Cond.methodLink RX9 56 mX9_at.1 ∈ lw_good := lw_good_in (List.mem_append_right _ (List.mem_of_getElem? (i := 735) (by decide +kernel))) (by decide +kernel)
theorem mlX9_66 : Cond.methodLink RX9 66 mX9_takesFigures.1 ∈ lw_good := lw_good_in (List.mem_append_right _ (List.mem_of_getElem? (i := 739) (by decide +kernel))) (by decide +kernel)
theorem mlX9_69 : Cond.methodLink RX9 69 mX9_isCaskWord.1 ∈ lw_good := lw_good_in (List.mem_append_right _ (List.mem_of_getElem? (i := 743) (by decide +kernel))) (by decide +kernel)
theorem mlX9_73 : Cond.methodLink RX9 73 mX9_isStandsWord.1 ∈ lw_good := lw_good_in (List.mem_append_right _ (List.mem_of_getElem? (i := 747) (by decide +kernel))) (by decide +kernel)
theorem mlX9_90 : Cond.methodLink RX9 90 mX9_readsCask.1 ∈ lw_good := lw_good_in (List.mem_append_right _ (List.mem_of_getElem? (i := 751) (by decide +kernel))) (by decide +kernel)
theorem mlX9_82 : Cond.methodLink RX9 82 mX9_takes.1 ∈ lw_good := lw_good_in (List.mem_append_right _ (List.mem_of_getElem? (i := 755) (by decide +kernel))) (by decide +kernel)
theorem mlX9_86 : Cond.methodLink RX9 86 mX9_numberIn.1 ∈ lw_good := lw_good_in (List.mem_append_right _ (List.mem_of_getElem? (i := 759) (by decide +kernel))) (by decide +kernel)
theorem mlX9_93 : Cond.methodLink RX9 93 mX9_readsStands.1 ∈ lw_good := lw_good_in (List.mem_append_right _ (List.mem_of_getElem? (i := 763) (by decide +kernel))) (by decide +kernel)
theorem mlX9_100 : Cond.methodLink RX9 100 mX9_notes.1 ∈ lw_good := lw_good_in (List.mem_append_right _ (List.mem_of_getElem? (i := 767) (by decide +kernel))) (by decide +kernel)
theorem mlL_31 : Cond.methodLink RL 31 mX9_fills.1 ∈ lw_good := lw_good_in (List.mem_append_right _ (List.mem_of_getElem? (i := 771) (by decide +kernel))) (by decide +kernel)
theorem mlX9_127 : Cond.methodLink RX9 127 mX9_isCask.1 ∈ lw_good := lw_good_in (List.mem_append_right _ (List.mem_of_getElem? (i := 775) (by decide +kernel))) (by decide +kernel)
theorem mlX9_131 : Cond.methodLink RX9 131 mX9_hold.1 ∈ lw_good := lw_good_in (List.mem_append_right _ (List.mem_of_getElem? (i := 779) (by decide +kernel))) (by decide +kernel)
theorem mlX9_120 : Cond.methodLink RX9 120 mX9_laysNow.1 ∈ lw_good := lw_good_in (List.mem_append_right _ (List.mem_of_getElem? (i := 783) (by decide +kernel))) (by decide +kernel)
theorem mlX9_103 : Cond.methodLink RX9 103 mX9_of.1 ∈ lw_good := lw_good_in (List.mem_append_right _ (List.mem_of_getElem? (i := 787) (by decide +kernel))) (by decide +kernel)
theorem mlX9_116 : Cond.methodLink RX9 116 mX9_lays.1 ∈ lw_good := lw_good_in (List.mem_append_right _ (List.mem_of_getElem? (i := 791) (by decide +kernel))) (by decide +kernel)
theorem mlX9_112 : Cond.methodLink RX9 112 mX9_cellsOf.1 ∈ lw_good := lw_good_in (List.mem_append_right _ (List.mem_of_getElem? (i := 795) (by decide +kernel))) (by decide +kernel)
theorem mlX9_106 : Cond.methodLink RX9 106 mX9_radius.1 ∈ lw_good := lw_good_in (List.mem_append_right _ (List.mem_of_getElem? (i := 799) (by decide +kernel))) (by decide +kernel)
theorem mlL_36 : Cond.methodLink RL 36 mX9_draws.1 ∈ lw_good := lw_good_in (List.mem_append_right _ (List.mem_of_getElem? (i := 803) (by decide +kernel))) (by decide +kernel)
theorem mlX9_134 : Cond.methodLink RX9 134 mX9_goes.1 ∈ lw_good := lw_good_in (List.mem_append_right _ (List.mem_of_getElem? (i := 807) (by decide +kernel))) (by decide +kernel)
theorem mlL_40 : Cond.methodLink RL 40 mX9_pours.1 ∈ lw_good := lw_good_in (List.mem_append_right _ (List.mem_of_getElem? (i := 811) (by decide +kernel))) (by decide +kernel)
theorem mlL_44 : Cond.methodLink RL 44 mX9_turnsOver.1 ∈ lw_good := lw_good_in (List.mem_append_right _ (List.mem_of_getElem? (i := 815) (by decide +kernel))) (by decide +kernel)
theorem mlL_48 : Cond.methodLink RL 48 mX9_undo.1 ∈ lw_good := lw_good_in (List.mem_append_right _ (List.mem_of_getElem? (i := 819) (by decide +kernel))) (by decide +kernel)
theorem mlL_52 : Cond.methodLink RL 52 mX9_cask.1 ∈ lw_good := lw_good_in (List.mem_append_right _ (List.mem_of_getElem? (i := 823) (by decide +kernel))) (by decide +kernel)
theorem mlX9_137 : Cond.methodLink RX9 137 mX9_dipOf.1 ∈ lw_good := lw_good_in (List.mem_append_right _ (List.mem_of_getElem? (i := 827) (by decide +kernel))) (by decide +kernel)
theorem kfX9_140 : Cond.constantFloat RX9 140 1148846080 ∈ lw_good := lw_good_in (List.mem_append_right _ (List.mem_of_getElem? (i := 831) (by decide +kernel))) (by decide +kernel)
theorem mlX9_141 : Cond.methodLink RX9 141 mX9_strength.1 ∈ lw_good := lw_good_in (List.mem_append_right _ (List.mem_of_getElem? (i := 832) (by decide +kernel))) (by decide +kernel)
theorem mlL_56 : Cond.methodLink RL 56 mX9_slice.1 ∈ lw_good := lw_good_in (List.mem_append_right _ (List.mem_of_getElem? (i := 836) (by decide +kernel))) (by decide +kernel)
theorem mlL_60 : Cond.methodLink RL 60 mX9_under.1 ∈ lw_good := lw_good_in (List.mem_append_right _ (List.mem_of_getElem? (i := 840) (by decide +kernel))) (by decide +kernel)
theorem mlX9_145 : Cond.methodLink RX9 145 mX9_isHeight.1 ∈ lw_good := lw_good_in (List.mem_append_right _ (List.mem_of_getElem? (i := 844) (by decide +kernel))) (by decide +kernel)
theorem mlL_64 : Cond.methodLink RL 64 mX9_dip.1 ∈ lw_good := lw_good_in (List.mem_append_right _ (List.mem_of_getElem? (i := 848) (by decide +kernel))) (by decide +kernel)
theorem mlL_68 : Cond.methodLink RL 68 mX9_stick.1 ∈ lw_good := lw_good_in (List.mem_append_right _ (List.mem_of_getElem? (i := 852) (by decide +kernel))) (by decide +kernel)
theorem mlL_72 : Cond.methodLink RL 72 mX9_known.1 ∈ lw_good := lw_good_in (List.mem_append_right _ (List.mem_of_getElem? (i := 856) (by decide +kernel))) (by decide +kernel)
theorem mlL_76 : Cond.methodLink RL 76 mX9_shares.1 ∈ lw_good := lw_good_in (List.mem_append_right _ (List.mem_of_getElem? (i := 860) (by decide +kernel))) (by decide +kernel)
theorem mlX9_155 : Cond.methodLink RX9 155 mX9_mostBy.1 ∈ lw_good := lw_good_in (List.mem_append_right _ (List.mem_of_getElem? (i := 864) (by decide +kernel))) (by decide +kernel)
theorem mlL_80 : Cond.methodLink RL 80 mX9_all.1 ∈ lw_good := lw_good_in (List.mem_append_right _ (List.mem_of_getElem? (i := 868) (by decide +kernel))) (by decide +kernel)
theorem mlX9_158 : Cond.methodLink RX9 158 mX9_strongest.1 ∈ lw_good := lw_good_in (List.mem_append_right _ (List.mem_of_getElem? (i := 872) (by decide +kernel))) (by decide +kernel)
theorem mlX9_161 : Cond.methodLink RX9 161 mX9_mean.1 ∈ lw_good := lw_good_in (List.mem_append_right _ (List.mem_of_getElem? (i := 876) (by decide +kernel))) (by decide +kernel)
theorem mlL_84 : Cond.methodLink RL 84 mX9_sees.1 ∈ lw_good := lw_good_in (List.mem_append_right _ (List.mem_of_getElem? (i := 880) (by decide +kernel))) (by decide +kernel)
theorem kcX9_164 : Cond.constant RX9 164 99999 ∈ lw_good := lw_good_in (List.mem_append_right _ (List.mem_of_getElem? (i := 884) (by decide +kernel))) (by decide +kernel)
theorem mlL_88 : Cond.methodLink RL 88 mX9_forget.1 ∈ lw_good := lw_good_in (List.mem_append_right _ (List.mem_of_getElem? (i := 885) (by decide +kernel))) (by decide +kernel)
theorem mlL_92 : Cond.methodLink RL 92 mX9_which.1 ∈ lw_good := lw_good_in (List.mem_append_right _ (List.mem_of_getElem? (i := 889) (by decide +kernel))) (by decide +kernel)
theorem mlX9_168 : Cond.methodLink RX9 168 mX9_suspects.1 ∈ lw_good := lw_good_in (List.mem_append_right _ (List.mem_of_getElem? (i := 893) (by decide +kernel))) (by decide +kernel)
theorem mlL_96 : Cond.methodLink RL 96 mX9_ask.1 ∈ lw_good := lw_good_in (List.mem_append_right _ (List.mem_of_getElem? (i := 897) (by decide +kernel))) (by decide +kernel)
theorem mlX9_171 : Cond.methodLink RX9 171 mX9_laysDips.1 ∈ lw_good := lw_good_in (List.mem_append_right _ (List.mem_of_getElem? (i := 901) (by decide +kernel))) (by decide +kernel)
theorem mlX9_174 : Cond.methodLink RX9 174 mX9_alike.1 ∈ lw_good := lw_good_in (List.mem_append_right _ (List.mem_of_getElem? (i := 905) (by decide +kernel))) (by decide +kernel)
theorem mlL_100 : Cond.methodLink RL 100 mX9_keep.1 ∈ lw_good := lw_good_in (List.mem_append_right _ (List.mem_of_getElem? (i := 909) (by decide +kernel))) (by decide +kernel)
theorem mlL_104 : Cond.methodLink RL 104 mX9_back.1 ∈ lw_good := lw_good_in (List.mem_append_right _ (List.mem_of_getElem? (i := 913) (by decide +kernel))) (by decide +kernel)
theorem mlL_108 : Cond.methodLink RL 108 mX9_count.1 ∈ lw_good := lw_good_in (List.mem_append_right _ (List.mem_of_getElem? (i := 917) (by decide +kernel))) (by decide +kernel)
theorem mlX9_177 : Cond.methodLink RX9 177 mX9_sum.1 ∈ lw_good := lw_good_in (List.mem_append_right _ (List.mem_of_getElem? (i := 921) (by decide +kernel))) (by decide +kernel)
theorem oi_im : Cond.instanceMethod objectInit ∈ lw_good := lw_good_in (List.mem_append_right _ (List.mem_of_getElem? (i := 23) (by decide +kernel))) (by decide +kernel)
theorem oi_co : Cond.code objectInit ⟨#[0xb1]⟩ 1 none ∈ lw_good := lw_good_in (List.mem_append_right _ (List.mem_of_getElem? (i := 24) (by decide +kernel))) (by decide +kernel)
end
section
theorem dX0_init_0 : decode cX0_init 0 = .ok (.aload_n 0, 1) := by decide +kernel
theorem dX0_init_1 : decode cX0_init 1 = .ok (.invokespecial 1, 3) := by decide +kernel
theorem dX0_init_4 : decode cX0_init 4 = .ok (.return_, 1) := by decide +kernel
theorem dX0_becomeNew_0 : decode cX0_becomeNew 0 = .ok (.aload_n 0, 1) := by decide +kernel
theorem dX0_becomeNew_1 : decode cX0_becomeNew 1 = .ok (.iload_n 1, 1) := by decide +kernel
theorem dX0_becomeNew_2 : decode cX0_becomeNew 2 = .ok (.putfield 7, 3) := by decide +kernel
theorem dX0_becomeNew_5 : decode cX0_becomeNew 5 = .ok (.aload_n 0, 1) := by decide +kernel
theorem dX0_becomeNew_6 : decode cX0_becomeNew 6 = .ok (.iload_n 2, 1) := by decide +kernel
theorem dX0_becomeNew_7 : decode cX0_becomeNew 7 = .ok (.putfield 13, 3) := by decide +kernel
theorem dX0_becomeNew_10 : decode cX0_becomeNew 10 = .ok (.aload_n 0, 1) := by decide +kernel
theorem dX0_becomeNew_11 : decode cX0_becomeNew 11 = .ok (.iload_n 3, 1) := by decide +kernel
theorem dX0_becomeNew_12 : decode cX0_becomeNew 12 = .ok (.putfield 16, 3) := by decide +kernel
theorem dX0_becomeNew_15 : decode cX0_becomeNew 15 = .ok (.aload_n 0, 1) := by decide +kernel
theorem dX0_becomeNew_16 : decode cX0_becomeNew 16 = .ok (.iconst 1, 1) := by decide +kernel
theorem dX0_becomeNew_17 : decode cX0_becomeNew 17 = .ok (.putfield 19, 3) := by decide +kernel
theorem dX0_becomeNew_20 : decode cX0_becomeNew 20 = .ok (.aload_n 0, 1) := by decide +kernel
theorem dX0_becomeNew_21 : decode cX0_becomeNew 21 = .ok (.iconst 0, 1) := by decide +kernel
theorem dX0_becomeNew_22 : decode cX0_becomeNew 22 = .ok (.putfield 23, 3) := by decide +kernel
theorem dX0_becomeNew_25 : decode cX0_becomeNew 25 = .ok (.aload_n 0, 1) := by decide +kernel
theorem dX0_becomeNew_26 : decode cX0_becomeNew 26 = .ok (.iconst 0, 1) := by decide +kernel
theorem dX0_becomeNew_27 : decode cX0_becomeNew 27 = .ok (.putfield 26, 3) := by decide +kernel
theorem dX0_becomeNew_30 : decode cX0_becomeNew 30 = .ok (.return_, 1) := by decide +kernel
theorem dX0_copyFrom_0 : decode cX0_copyFrom 0 = .ok (.aload_n 0, 1) := by decide +kernel
theorem dX0_copyFrom_1 : decode cX0_copyFrom 1 = .ok (.aload_n 1, 1) := by decide +kernel
theorem dX0_copyFrom_2 : decode cX0_copyFrom 2 = .ok (.getfield 7, 3) := by decide +kernel
theorem dX0_copyFrom_5 : decode cX0_copyFrom 5 = .ok (.putfield 7, 3) := by decide +kernel
theorem dX0_copyFrom_8 : decode cX0_copyFrom 8 = .ok (.aload_n 0, 1) := by decide +kernel
theorem dX0_copyFrom_9 : decode cX0_copyFrom 9 = .ok (.aload_n 1, 1) := by decide +kernel
theorem dX0_copyFrom_10 : decode cX0_copyFrom 10 = .ok (.getfield 13, 3) := by decide +kernel
theorem dX0_copyFrom_13 : decode cX0_copyFrom 13 = .ok (.putfield 13, 3) := by decide +kernel
theorem dX0_copyFrom_16 : decode cX0_copyFrom 16 = .ok (.aload_n 0, 1) := by decide +kernel
theorem dX0_copyFrom_17 : decode cX0_copyFrom 17 = .ok (.aload_n 1, 1) := by decide +kernel
theorem dX0_copyFrom_18 : decode cX0_copyFrom 18 = .ok (.getfield 16, 3) := by decide +kernel
theorem dX0_copyFrom_21 : decode cX0_copyFrom 21 = .ok (.putfield 16, 3) := by decide +kernel
theorem dX0_copyFrom_24 : decode cX0_copyFrom 24 = .ok (.aload_n 0, 1) := by decide +kernel
theorem dX0_copyFrom_25 : decode cX0_copyFrom 25 = .ok (.aload_n 1, 1) := by decide +kernel
theorem dX0_copyFrom_26 : decode cX0_copyFrom 26 = .ok (.getfield 19, 3) := by decide +kernel
theorem dX0_copyFrom_29 : decode cX0_copyFrom 29 = .ok (.putfield 19, 3) := by decide +kernel
theorem dX0_copyFrom_32 : decode cX0_copyFrom 32 = .ok (.aload_n 0, 1) := by decide +kernel
theorem dX0_copyFrom_33 : decode cX0_copyFrom 33 = .ok (.aload_n 1, 1) := by decide +kernel
theorem dX0_copyFrom_34 : decode cX0_copyFrom 34 = .ok (.getfield 23, 3) := by decide +kernel
theorem dX0_copyFrom_37 : decode cX0_copyFrom 37 = .ok (.putfield 23, 3) := by decide +kernel
theorem dX0_copyFrom_40 : decode cX0_copyFrom 40 = .ok (.aload_n 0, 1) := by decide +kernel
theorem dX0_copyFrom_41 : decode cX0_copyFrom 41 = .ok (.aload_n 1, 1) := by decide +kernel
theorem dX0_copyFrom_42 : decode cX0_copyFrom 42 = .ok (.getfield 26, 3) := by decide +kernel
theorem dX0_copyFrom_45 : decode cX0_copyFrom 45 = .ok (.putfield 26, 3) := by decide +kernel
theorem dX0_copyFrom_48 : decode cX0_copyFrom 48 = .ok (.return_, 1) := by decide +kernel
theorem dX0_radiusOf_0 : decode cX0_radiusOf 0 = .ok (.aload_n 0, 1) := by decide +kernel
theorem dX0_radiusOf_1 : decode cX0_radiusOf 1 = .ok (.getfield 7, 3) := by decide +kernel
theorem dX0_radiusOf_4 : decode cX0_radiusOf 4 = .ok (.aload_n 0, 1) := by decide +kernel
theorem dX0_radiusOf_5 : decode cX0_radiusOf 5 = .ok (.getfield 7, 3) := by decide +kernel
theorem dX0_radiusOf_8 : decode cX0_radiusOf 8 = .ok (.imul, 1) := by decide +kernel
theorem dX0_radiusOf_9 : decode cX0_radiusOf 9 = .ok (.istore_n 2, 1) := by decide +kernel
theorem dX0_radiusOf_10 : decode cX0_radiusOf 10 = .ok (.iload_n 2, 1) := by decide +kernel
theorem dX0_radiusOf_11 : decode cX0_radiusOf 11 = .ok (.ifCond .ne 8, 3) := by decide +kernel
theorem dX0_radiusOf_14 : decode cX0_radiusOf 14 = .ok (.aload_n 0, 1) := by decide +kernel
theorem dX0_radiusOf_15 : decode cX0_radiusOf 15 = .ok (.getfield 16, 3) := by decide +kernel
theorem dX0_radiusOf_18 : decode cX0_radiusOf 18 = .ok (.ireturn, 1) := by decide +kernel
theorem dX0_radiusOf_19 : decode cX0_radiusOf 19 = .ok (.iconst 2, 1) := by decide +kernel
theorem dX0_radiusOf_20 : decode cX0_radiusOf 20 = .ok (.iload_n 1, 1) := by decide +kernel
theorem dX0_radiusOf_21 : decode cX0_radiusOf 21 = .ok (.imul, 1) := by decide +kernel
theorem dX0_radiusOf_22 : decode cX0_radiusOf 22 = .ok (.iconst 1, 1) := by decide +kernel
theorem dX0_radiusOf_23 : decode cX0_radiusOf 23 = .ok (.iadd, 1) := by decide +kernel
theorem dX0_radiusOf_24 : decode cX0_radiusOf 24 = .ok (.aload_n 0, 1) := by decide +kernel
theorem dX0_radiusOf_25 : decode cX0_radiusOf 25 = .ok (.getfield 7, 3) := by decide +kernel
theorem dX0_radiusOf_28 : decode cX0_radiusOf 28 = .ok (.isub, 1) := by decide +kernel
theorem dX0_radiusOf_29 : decode cX0_radiusOf 29 = .ok (.istore_n 3, 1) := by decide +kernel
theorem dX0_radiusOf_30 : decode cX0_radiusOf 30 = .ok (.aload_n 0, 1) := by decide +kernel
theorem dX0_radiusOf_31 : decode cX0_radiusOf 31 = .ok (.getfield 16, 3) := by decide +kernel
theorem dX0_radiusOf_34 : decode cX0_radiusOf 34 = .ok (.aload_n 0, 1) := by decide +kernel
theorem dX0_radiusOf_35 : decode cX0_radiusOf 35 = .ok (.getfield 16, 3) := by decide +kernel
theorem dX0_radiusOf_38 : decode cX0_radiusOf 38 = .ok (.aload_n 0, 1) := by decide +kernel
theorem dX0_radiusOf_39 : decode cX0_radiusOf 39 = .ok (.getfield 13, 3) := by decide +kernel
theorem dX0_radiusOf_42 : decode cX0_radiusOf 42 = .ok (.isub, 1) := by decide +kernel
theorem dX0_radiusOf_43 : decode cX0_radiusOf 43 = .ok (.iload_n 3, 1) := by decide +kernel
theorem dX0_radiusOf_44 : decode cX0_radiusOf 44 = .ok (.imul, 1) := by decide +kernel
theorem dX0_radiusOf_45 : decode cX0_radiusOf 45 = .ok (.iload_n 3, 1) := by decide +kernel
theorem dX0_radiusOf_46 : decode cX0_radiusOf 46 = .ok (.imul, 1) := by decide +kernel
theorem dX0_radiusOf_47 : decode cX0_radiusOf 47 = .ok (.iload_n 2, 1) := by decide +kernel
theorem dX0_radiusOf_48 : decode cX0_radiusOf 48 = .ok (.idiv, 1) := by decide +kernel
theorem dX0_radiusOf_49 : decode cX0_radiusOf 49 = .ok (.isub, 1) := by decide +kernel
theorem dX0_radiusOf_50 : decode cX0_radiusOf 50 = .ok (.ireturn, 1) := by decide +kernel
theorem dX0_cellsOf_0 : decode cX0_cellsOf 0 = .ok (.iconst 2, 1) := by decide +kernel
theorem dX0_cellsOf_1 : decode cX0_cellsOf 1 = .ok (.iload_n 2, 1) := by decide +kernel
theorem dX0_cellsOf_2 : decode cX0_cellsOf 2 = .ok (.imul, 1) := by decide +kernel
theorem dX0_cellsOf_3 : decode cX0_cellsOf 3 = .ok (.iconst 1, 1) := by decide +kernel
theorem dX0_cellsOf_4 : decode cX0_cellsOf 4 = .ok (.iadd, 1) := by decide +kernel
theorem dX0_cellsOf_5 : decode cX0_cellsOf 5 = .ok (.iconst 2, 1) := by decide +kernel
theorem dX0_cellsOf_6 : decode cX0_cellsOf 6 = .ok (.aload_n 0, 1) := by decide +kernel
theorem dX0_cellsOf_7 : decode cX0_cellsOf 7 = .ok (.getfield 16, 3) := by decide +kernel
theorem dX0_cellsOf_10 : decode cX0_cellsOf 10 = .ok (.imul, 1) := by decide +kernel
theorem dX0_cellsOf_11 : decode cX0_cellsOf 11 = .ok (.isub, 1) := by decide +kernel
theorem dX0_cellsOf_12 : decode cX0_cellsOf 12 = .ok (.istore_n 3, 1) := by decide +kernel
theorem dX0_cellsOf_13 : decode cX0_cellsOf 13 = .ok (.iconst 4, 1) := by decide +kernel
theorem dX0_cellsOf_14 : decode cX0_cellsOf 14 = .ok (.iload_n 1, 1) := by decide +kernel
theorem dX0_cellsOf_15 : decode cX0_cellsOf 15 = .ok (.imul, 1) := by decide +kernel
theorem dX0_cellsOf_16 : decode cX0_cellsOf 16 = .ok (.iload_n 1, 1) := by decide +kernel
theorem dX0_cellsOf_17 : decode cX0_cellsOf 17 = .ok (.imul, 1) := by decide +kernel
theorem dX0_cellsOf_18 : decode cX0_cellsOf 18 = .ok (.iload_n 3, 1) := by decide +kernel
theorem dX0_cellsOf_19 : decode cX0_cellsOf 19 = .ok (.iload_n 3, 1) := by decide +kernel
theorem dX0_cellsOf_20 : decode cX0_cellsOf 20 = .ok (.imul, 1) := by decide +kernel
theorem dX0_cellsOf_21 : decode cX0_cellsOf 21 = .ok (.isub, 1) := by decide +kernel
theorem dX0_cellsOf_22 : decode cX0_cellsOf 22 = .ok (.istore 4, 2) := by decide +kernel
theorem dX0_cellsOf_24 : decode cX0_cellsOf 24 = .ok (.iconst 0, 1) := by decide +kernel
theorem dX0_cellsOf_25 : decode cX0_cellsOf 25 = .ok (.istore 5, 2) := by decide +kernel
theorem dX0_cellsOf_27 : decode cX0_cellsOf 27 = .ok (.iload 5, 2) := by decide +kernel
theorem dX0_cellsOf_29 : decode cX0_cellsOf 29 = .ok (.iload_n 1, 1) := by decide +kernel
theorem dX0_cellsOf_30 : decode cX0_cellsOf 30 = .ok (.if_icmp .ge 25, 3) := by decide +kernel
theorem dX0_cellsOf_33 : decode cX0_cellsOf 33 = .ok (.iconst 4, 1) := by decide +kernel
theorem dX0_cellsOf_34 : decode cX0_cellsOf 34 = .ok (.iload 5, 2) := by decide +kernel
theorem dX0_cellsOf_36 : decode cX0_cellsOf 36 = .ok (.iconst 1, 1) := by decide +kernel
theorem dX0_cellsOf_37 : decode cX0_cellsOf 37 = .ok (.iadd, 1) := by decide +kernel
theorem dX0_cellsOf_38 : decode cX0_cellsOf 38 = .ok (.imul, 1) := by decide +kernel
theorem dX0_cellsOf_39 : decode cX0_cellsOf 39 = .ok (.iload 5, 2) := by decide +kernel
theorem dX0_cellsOf_41 : decode cX0_cellsOf 41 = .ok (.iconst 1, 1) := by decide +kernel
theorem dX0_cellsOf_42 : decode cX0_cellsOf 42 = .ok (.iadd, 1) := by decide +kernel
theorem dX0_cellsOf_43 : decode cX0_cellsOf 43 = .ok (.imul, 1) := by decide +kernel
theorem dX0_cellsOf_44 : decode cX0_cellsOf 44 = .ok (.iload 4, 2) := by decide +kernel
theorem dX0_cellsOf_46 : decode cX0_cellsOf 46 = .ok (.if_icmp .gt 9, 3) := by decide +kernel
theorem dX0_cellsOf_49 : decode cX0_cellsOf 49 = .ok (.iinc 5 1, 3) := by decide +kernel
theorem dX0_cellsOf_52 : decode cX0_cellsOf 52 = .ok (.goto (-25), 3) := by decide +kernel
theorem dX0_cellsOf_55 : decode cX0_cellsOf 55 = .ok (.iconst 2, 1) := by decide +kernel
theorem dX0_cellsOf_56 : decode cX0_cellsOf 56 = .ok (.iload 5, 2) := by decide +kernel
theorem dX0_cellsOf_58 : decode cX0_cellsOf 58 = .ok (.imul, 1) := by decide +kernel
theorem dX0_cellsOf_59 : decode cX0_cellsOf 59 = .ok (.ireturn, 1) := by decide +kernel
theorem dX0_takeIn_0 : decode cX0_takeIn 0 = .ok (.aload_n 0, 1) := by decide +kernel
theorem dX0_takeIn_1 : decode cX0_takeIn 1 = .ok (.dup, 1) := by decide +kernel
theorem dX0_takeIn_2 : decode cX0_takeIn 2 = .ok (.getfield 23, 3) := by decide +kernel
theorem dX0_takeIn_5 : decode cX0_takeIn 5 = .ok (.iload_n 1, 1) := by decide +kernel
theorem dX0_takeIn_6 : decode cX0_takeIn 6 = .ok (.iadd, 1) := by decide +kernel
theorem dX0_takeIn_7 : decode cX0_takeIn 7 = .ok (.putfield 23, 3) := by decide +kernel
theorem dX0_takeIn_10 : decode cX0_takeIn 10 = .ok (.aload_n 0, 1) := by decide +kernel
theorem dX0_takeIn_11 : decode cX0_takeIn 11 = .ok (.dup, 1) := by decide +kernel
theorem dX0_takeIn_12 : decode cX0_takeIn 12 = .ok (.getfield 26, 3) := by decide +kernel
theorem dX0_takeIn_15 : decode cX0_takeIn 15 = .ok (.iload_n 2, 1) := by decide +kernel
theorem dX0_takeIn_16 : decode cX0_takeIn 16 = .ok (.iadd, 1) := by decide +kernel
theorem dX0_takeIn_17 : decode cX0_takeIn 17 = .ok (.putfield 26, 3) := by decide +kernel
theorem dX0_takeIn_20 : decode cX0_takeIn 20 = .ok (.return_, 1) := by decide +kernel
theorem dX0_giveOut_0 : decode cX0_giveOut 0 = .ok (.aload_n 0, 1) := by decide +kernel
theorem dX0_giveOut_1 : decode cX0_giveOut 1 = .ok (.getfield 23, 3) := by decide +kernel
theorem dX0_giveOut_4 : decode cX0_giveOut 4 = .ok (.ifCond .ne 5, 3) := by decide +kernel
theorem dX0_giveOut_7 : decode cX0_giveOut 7 = .ok (.iconst 0, 1) := by decide +kernel
theorem dX0_giveOut_8 : decode cX0_giveOut 8 = .ok (.ireturn, 1) := by decide +kernel
theorem dX0_giveOut_9 : decode cX0_giveOut 9 = .ok (.aload_n 0, 1) := by decide +kernel
theorem dX0_giveOut_10 : decode cX0_giveOut 10 = .ok (.getfield 26, 3) := by decide +kernel
theorem dX0_giveOut_13 : decode cX0_giveOut 13 = .ok (.iload_n 1, 1) := by decide +kernel
theorem dX0_giveOut_14 : decode cX0_giveOut 14 = .ok (.imul, 1) := by decide +kernel
theorem dX0_giveOut_15 : decode cX0_giveOut 15 = .ok (.aload_n 0, 1) := by decide +kernel
theorem dX0_giveOut_16 : decode cX0_giveOut 16 = .ok (.getfield 23, 3) := by decide +kernel
theorem dX0_giveOut_19 : decode cX0_giveOut 19 = .ok (.idiv, 1) := by decide +kernel
theorem dX0_giveOut_20 : decode cX0_giveOut 20 = .ok (.istore_n 2, 1) := by decide +kernel
theorem dX0_giveOut_21 : decode cX0_giveOut 21 = .ok (.aload_n 0, 1) := by decide +kernel
theorem dX0_giveOut_22 : decode cX0_giveOut 22 = .ok (.dup, 1) := by decide +kernel
theorem dX0_giveOut_23 : decode cX0_giveOut 23 = .ok (.getfield 23, 3) := by decide +kernel
theorem dX0_giveOut_26 : decode cX0_giveOut 26 = .ok (.iload_n 1, 1) := by decide +kernel
theorem dX0_giveOut_27 : decode cX0_giveOut 27 = .ok (.isub, 1) := by decide +kernel
theorem dX0_giveOut_28 : decode cX0_giveOut 28 = .ok (.putfield 23, 3) := by decide +kernel
theorem dX0_giveOut_31 : decode cX0_giveOut 31 = .ok (.aload_n 0, 1) := by decide +kernel
theorem dX0_giveOut_32 : decode cX0_giveOut 32 = .ok (.dup, 1) := by decide +kernel
theorem dX0_giveOut_33 : decode cX0_giveOut 33 = .ok (.getfield 26, 3) := by decide +kernel
theorem dX0_giveOut_36 : decode cX0_giveOut 36 = .ok (.iload_n 2, 1) := by decide +kernel
theorem dX0_giveOut_37 : decode cX0_giveOut 37 = .ok (.isub, 1) := by decide +kernel
theorem dX0_giveOut_38 : decode cX0_giveOut 38 = .ok (.putfield 26, 3) := by decide +kernel
theorem dX0_giveOut_41 : decode cX0_giveOut 41 = .ok (.iload_n 2, 1) := by decide +kernel
theorem dX0_giveOut_42 : decode cX0_giveOut 42 = .ok (.ireturn, 1) := by decide +kernel
theorem dX0_strength_0 : decode cX0_strength 0 = .ok (.aload_n 0, 1) := by decide +kernel
theorem dX0_strength_1 : decode cX0_strength 1 = .ok (.getfield 23, 3) := by decide +kernel
theorem dX0_strength_4 : decode cX0_strength 4 = .ok (.ifCond .ne 7, 3) := by decide +kernel
theorem dX0_strength_7 : decode cX0_strength 7 = .ok (.fconst 0, 1) := by decide +kernel
theorem dX0_strength_8 : decode cX0_strength 8 = .ok (.goto 14, 3) := by decide +kernel
theorem dX0_strength_11 : decode cX0_strength 11 = .ok (.aload_n 0, 1) := by decide +kernel
theorem dX0_strength_12 : decode cX0_strength 12 = .ok (.getfield 26, 3) := by decide +kernel
theorem dX0_strength_15 : decode cX0_strength 15 = .ok (.i2f, 1) := by decide +kernel
theorem dX0_strength_16 : decode cX0_strength 16 = .ok (.aload_n 0, 1) := by decide +kernel
theorem dX0_strength_17 : decode cX0_strength 17 = .ok (.getfield 23, 3) := by decide +kernel
theorem dX0_strength_20 : decode cX0_strength 20 = .ok (.i2f, 1) := by decide +kernel
theorem dX0_strength_21 : decode cX0_strength 21 = .ok (.fdiv, 1) := by decide +kernel
theorem dX0_strength_22 : decode cX0_strength 22 = .ok (.freturn, 1) := by decide +kernel
theorem dX1_init_0 : decode cX1_init 0 = .ok (.aload_n 0, 1) := by decide +kernel
theorem dX1_init_1 : decode cX1_init 1 = .ok (.invokespecial 3, 3) := by decide +kernel
theorem dX1_init_4 : decode cX1_init 4 = .ok (.aload_n 0, 1) := by decide +kernel
theorem dX1_init_5 : decode cX1_init 5 = .ok (.iconst 4, 1) := by decide +kernel
theorem dX1_init_6 : decode cX1_init 6 = .ok (.anewarray 9, 3) := by decide +kernel
theorem dX1_init_9 : decode cX1_init 9 = .ok (.putfield 11, 3) := by decide +kernel
theorem dX1_init_12 : decode cX1_init 12 = .ok (.iconst 0, 1) := by decide +kernel
theorem dX1_init_13 : decode cX1_init 13 = .ok (.istore_n 1, 1) := by decide +kernel
theorem dX1_init_14 : decode cX1_init 14 = .ok (.iload_n 1, 1) := by decide +kernel
theorem dX1_init_15 : decode cX1_init 15 = .ok (.iconst 4, 1) := by decide +kernel
theorem dX1_init_16 : decode cX1_init 16 = .ok (.if_icmp .ge 22, 3) := by decide +kernel
theorem dX1_init_19 : decode cX1_init 19 = .ok (.aload_n 0, 1) := by decide +kernel
theorem dX1_init_20 : decode cX1_init 20 = .ok (.getfield 11, 3) := by decide +kernel
theorem dX1_init_23 : decode cX1_init 23 = .ok (.iload_n 1, 1) := by decide +kernel
theorem dX1_init_24 : decode cX1_init 24 = .ok (.new 9, 3) := by decide +kernel
theorem dX1_init_27 : decode cX1_init 27 = .ok (.dup, 1) := by decide +kernel
theorem dX1_init_28 : decode cX1_init 28 = .ok (.invokespecial 17, 3) := by decide +kernel
theorem dX1_init_31 : decode cX1_init 31 = .ok (.aastore, 1) := by decide +kernel
theorem dX1_init_32 : decode cX1_init 32 = .ok (.iinc 1 1, 3) := by decide +kernel
theorem dX1_init_35 : decode cX1_init 35 = .ok (.goto (-21), 3) := by decide +kernel
theorem dX1_init_38 : decode cX1_init 38 = .ok (.return_, 1) := by decide +kernel
theorem dX1_has_0 : decode cX1_has 0 = .ok (.iload_n 1, 1) := by decide +kernel
theorem dX1_has_1 : decode cX1_has 1 = .ok (.ifCond .lt 15, 3) := by decide +kernel
theorem dX1_has_4 : decode cX1_has 4 = .ok (.iload_n 1, 1) := by decide +kernel
theorem dX1_has_5 : decode cX1_has 5 = .ok (.aload_n 0, 1) := by decide +kernel
theorem dX1_has_6 : decode cX1_has 6 = .ok (.getfield 18, 3) := by decide +kernel
theorem dX1_has_9 : decode cX1_has 9 = .ok (.if_icmp .ge 7, 3) := by decide +kernel
theorem dX1_has_12 : decode cX1_has 12 = .ok (.iconst 1, 1) := by decide +kernel
theorem dX1_has_13 : decode cX1_has 13 = .ok (.goto 4, 3) := by decide +kernel
theorem dX1_has_16 : decode cX1_has 16 = .ok (.iconst 0, 1) := by decide +kernel
theorem dX1_has_17 : decode cX1_has 17 = .ok (.ireturn, 1) := by decide +kernel
theorem dX1_empty_0 : decode cX1_empty 0 = .ok (.aload_n 0, 1) := by decide +kernel
theorem dX1_empty_1 : decode cX1_empty 1 = .ok (.iconst 0, 1) := by decide +kernel
theorem dX1_empty_2 : decode cX1_empty 2 = .ok (.putfield 18, 3) := by decide +kernel
theorem dX1_empty_5 : decode cX1_empty 5 = .ok (.return_, 1) := by decide +kernel
theorem dX1_add_0 : decode cX1_add 0 = .ok (.aload_n 0, 1) := by decide +kernel
theorem dX1_add_1 : decode cX1_add 1 = .ok (.getfield 18, 3) := by decide +kernel
theorem dX1_add_4 : decode cX1_add 4 = .ok (.iconst 4, 1) := by decide +kernel
theorem dX1_add_5 : decode cX1_add 5 = .ok (.if_icmp .lt 5, 3) := by decide +kernel
theorem dX1_add_8 : decode cX1_add 8 = .ok (.iconst 0, 1) := by decide +kernel
theorem dX1_add_9 : decode cX1_add 9 = .ok (.ireturn, 1) := by decide +kernel
theorem dX1_add_10 : decode cX1_add 10 = .ok (.aload_n 0, 1) := by decide +kernel
theorem dX1_add_11 : decode cX1_add 11 = .ok (.getfield 11, 3) := by decide +kernel
theorem dX1_add_14 : decode cX1_add 14 = .ok (.aload_n 0, 1) := by decide +kernel
theorem dX1_add_15 : decode cX1_add 15 = .ok (.getfield 18, 3) := by decide +kernel
theorem dX1_add_18 : decode cX1_add 18 = .ok (.aaload, 1) := by decide +kernel
theorem dX1_add_19 : decode cX1_add 19 = .ok (.iload_n 1, 1) := by decide +kernel
theorem dX1_add_20 : decode cX1_add 20 = .ok (.iload_n 2, 1) := by decide +kernel
theorem dX1_add_21 : decode cX1_add 21 = .ok (.iload_n 3, 1) := by decide +kernel
theorem dX1_add_22 : decode cX1_add 22 = .ok (.invokevirtual 22, 3) := by decide +kernel
theorem dX1_add_25 : decode cX1_add 25 = .ok (.aload_n 0, 1) := by decide +kernel
theorem dX1_add_26 : decode cX1_add 26 = .ok (.dup, 1) := by decide +kernel
theorem dX1_add_27 : decode cX1_add 27 = .ok (.getfield 18, 3) := by decide +kernel
theorem dX1_add_30 : decode cX1_add 30 = .ok (.iconst 1, 1) := by decide +kernel
theorem dX1_add_31 : decode cX1_add 31 = .ok (.iadd, 1) := by decide +kernel
theorem dX1_add_32 : decode cX1_add 32 = .ok (.putfield 18, 3) := by decide +kernel
theorem dX1_add_35 : decode cX1_add 35 = .ok (.iconst 1, 1) := by decide +kernel
theorem dX1_add_36 : decode cX1_add 36 = .ok (.ireturn, 1) := by decide +kernel
theorem dX1_copyFrom_0 : decode cX1_copyFrom 0 = .ok (.aload_n 0, 1) := by decide +kernel
theorem dX1_copyFrom_1 : decode cX1_copyFrom 1 = .ok (.aload_n 1, 1) := by decide +kernel
theorem dX1_copyFrom_2 : decode cX1_copyFrom 2 = .ok (.getfield 18, 3) := by decide +kernel
theorem dX1_copyFrom_5 : decode cX1_copyFrom 5 = .ok (.putfield 18, 3) := by decide +kernel
theorem dX1_copyFrom_8 : decode cX1_copyFrom 8 = .ok (.iconst 0, 1) := by decide +kernel
theorem dX1_copyFrom_9 : decode cX1_copyFrom 9 = .ok (.istore_n 2, 1) := by decide +kernel
theorem dX1_copyFrom_10 : decode cX1_copyFrom 10 = .ok (.iload_n 2, 1) := by decide +kernel
theorem dX1_copyFrom_11 : decode cX1_copyFrom 11 = .ok (.aload_n 0, 1) := by decide +kernel
theorem dX1_copyFrom_12 : decode cX1_copyFrom 12 = .ok (.getfield 18, 3) := by decide +kernel
theorem dX1_copyFrom_15 : decode cX1_copyFrom 15 = .ok (.if_icmp .ge 24, 3) := by decide +kernel
theorem dX1_copyFrom_18 : decode cX1_copyFrom 18 = .ok (.aload_n 0, 1) := by decide +kernel
theorem dX1_copyFrom_19 : decode cX1_copyFrom 19 = .ok (.getfield 11, 3) := by decide +kernel
theorem dX1_copyFrom_22 : decode cX1_copyFrom 22 = .ok (.iload_n 2, 1) := by decide +kernel
theorem dX1_copyFrom_23 : decode cX1_copyFrom 23 = .ok (.aaload, 1) := by decide +kernel
theorem dX1_copyFrom_24 : decode cX1_copyFrom 24 = .ok (.aload_n 1, 1) := by decide +kernel
theorem dX1_copyFrom_25 : decode cX1_copyFrom 25 = .ok (.getfield 11, 3) := by decide +kernel
theorem dX1_copyFrom_28 : decode cX1_copyFrom 28 = .ok (.iload_n 2, 1) := by decide +kernel
theorem dX1_copyFrom_29 : decode cX1_copyFrom 29 = .ok (.aaload, 1) := by decide +kernel
theorem dX1_copyFrom_30 : decode cX1_copyFrom 30 = .ok (.invokevirtual 26, 3) := by decide +kernel
theorem dX1_copyFrom_33 : decode cX1_copyFrom 33 = .ok (.iinc 2 1, 3) := by decide +kernel
theorem dX1_copyFrom_36 : decode cX1_copyFrom 36 = .ok (.goto (-26), 3) := by decide +kernel
theorem dX1_copyFrom_39 : decode cX1_copyFrom 39 = .ok (.return_, 1) := by decide +kernel
theorem dX1_allWine_0 : decode cX1_allWine 0 = .ok (.iconst 0, 1) := by decide +kernel
theorem dX1_allWine_1 : decode cX1_allWine 1 = .ok (.istore_n 1, 1) := by decide +kernel
theorem dX1_allWine_2 : decode cX1_allWine 2 = .ok (.iconst 0, 1) := by decide +kernel
theorem dX1_allWine_3 : decode cX1_allWine 3 = .ok (.istore_n 2, 1) := by decide +kernel
theorem dX1_allWine_4 : decode cX1_allWine 4 = .ok (.iload_n 2, 1) := by decide +kernel
theorem dX1_allWine_5 : decode cX1_allWine 5 = .ok (.aload_n 0, 1) := by decide +kernel
theorem dX1_allWine_6 : decode cX1_allWine 6 = .ok (.getfield 18, 3) := by decide +kernel
theorem dX1_allWine_9 : decode cX1_allWine 9 = .ok (.if_icmp .ge 21, 3) := by decide +kernel
theorem dX1_allWine_12 : decode cX1_allWine 12 = .ok (.iload_n 1, 1) := by decide +kernel
theorem dX1_allWine_13 : decode cX1_allWine 13 = .ok (.aload_n 0, 1) := by decide +kernel
theorem dX1_allWine_14 : decode cX1_allWine 14 = .ok (.getfield 11, 3) := by decide +kernel
theorem dX1_allWine_17 : decode cX1_allWine 17 = .ok (.iload_n 2, 1) := by decide +kernel
theorem dX1_allWine_18 : decode cX1_allWine 18 = .ok (.aaload, 1) := by decide +kernel
theorem dX1_allWine_19 : decode cX1_allWine 19 = .ok (.getfield 30, 3) := by decide +kernel
theorem dX1_allWine_22 : decode cX1_allWine 22 = .ok (.iadd, 1) := by decide +kernel
theorem dX1_allWine_23 : decode cX1_allWine 23 = .ok (.istore_n 1, 1) := by decide +kernel
theorem dX1_allWine_24 : decode cX1_allWine 24 = .ok (.iinc 2 1, 3) := by decide +kernel
theorem dX1_allWine_27 : decode cX1_allWine 27 = .ok (.goto (-23), 3) := by decide +kernel
theorem dX1_allWine_30 : decode cX1_allWine 30 = .ok (.iload_n 1, 1) := by decide +kernel
theorem dX1_allWine_31 : decode cX1_allWine 31 = .ok (.ireturn, 1) := by decide +kernel
theorem dX1_allSpirit_0 : decode cX1_allSpirit 0 = .ok (.iconst 0, 1) := by decide +kernel
theorem dX1_allSpirit_1 : decode cX1_allSpirit 1 = .ok (.istore_n 1, 1) := by decide +kernel
theorem dX1_allSpirit_2 : decode cX1_allSpirit 2 = .ok (.iconst 0, 1) := by decide +kernel
theorem dX1_allSpirit_3 : decode cX1_allSpirit 3 = .ok (.istore_n 2, 1) := by decide +kernel
theorem dX1_allSpirit_4 : decode cX1_allSpirit 4 = .ok (.iload_n 2, 1) := by decide +kernel
theorem dX1_allSpirit_5 : decode cX1_allSpirit 5 = .ok (.aload_n 0, 1) := by decide +kernel
theorem dX1_allSpirit_6 : decode cX1_allSpirit 6 = .ok (.getfield 18, 3) := by decide +kernel
theorem dX1_allSpirit_9 : decode cX1_allSpirit 9 = .ok (.if_icmp .ge 21, 3) := by decide +kernel
theorem dX1_allSpirit_12 : decode cX1_allSpirit 12 = .ok (.iload_n 1, 1) := by decide +kernel
theorem dX1_allSpirit_13 : decode cX1_allSpirit 13 = .ok (.aload_n 0, 1) := by decide +kernel
theorem dX1_allSpirit_14 : decode cX1_allSpirit 14 = .ok (.getfield 11, 3) := by decide +kernel
theorem dX1_allSpirit_17 : decode cX1_allSpirit 17 = .ok (.iload_n 2, 1) := by decide +kernel
theorem dX1_allSpirit_18 : decode cX1_allSpirit 18 = .ok (.aaload, 1) := by decide +kernel
theorem dX1_allSpirit_19 : decode cX1_allSpirit 19 = .ok (.getfield 33, 3) := by decide +kernel
theorem dX1_allSpirit_22 : decode cX1_allSpirit 22 = .ok (.iadd, 1) := by decide +kernel
theorem dX1_allSpirit_23 : decode cX1_allSpirit 23 = .ok (.istore_n 1, 1) := by decide +kernel
theorem dX1_allSpirit_24 : decode cX1_allSpirit 24 = .ok (.iinc 2 1, 3) := by decide +kernel
theorem dX1_allSpirit_27 : decode cX1_allSpirit 27 = .ok (.goto (-23), 3) := by decide +kernel
theorem dX1_allSpirit_30 : decode cX1_allSpirit 30 = .ok (.iload_n 1, 1) := by decide +kernel
theorem dX1_allSpirit_31 : decode cX1_allSpirit 31 = .ok (.ireturn, 1) := by decide +kernel
theorem dX1_strongest_0 : decode cX1_strongest 0 = .ok (.bipush (-9), 2) := by decide +kernel
theorem dX1_strongest_2 : decode cX1_strongest 2 = .ok (.istore_n 1, 1) := by decide +kernel
theorem dX1_strongest_3 : decode cX1_strongest 3 = .ok (.fconst 0, 1) := by decide +kernel
theorem dX1_strongest_4 : decode cX1_strongest 4 = .ok (.fstore_n 2, 1) := by decide +kernel
theorem dX1_strongest_5 : decode cX1_strongest 5 = .ok (.iconst 0, 1) := by decide +kernel
theorem dX1_strongest_6 : decode cX1_strongest 6 = .ok (.istore_n 3, 1) := by decide +kernel
theorem dX1_strongest_7 : decode cX1_strongest 7 = .ok (.iload_n 3, 1) := by decide +kernel
theorem dX1_strongest_8 : decode cX1_strongest 8 = .ok (.aload_n 0, 1) := by decide +kernel
theorem dX1_strongest_9 : decode cX1_strongest 9 = .ok (.getfield 18, 3) := by decide +kernel
theorem dX1_strongest_12 : decode cX1_strongest 12 = .ok (.if_icmp .ge 53, 3) := by decide +kernel
theorem dX1_strongest_15 : decode cX1_strongest 15 = .ok (.aload_n 0, 1) := by decide +kernel
theorem dX1_strongest_16 : decode cX1_strongest 16 = .ok (.getfield 11, 3) := by decide +kernel
theorem dX1_strongest_19 : decode cX1_strongest 19 = .ok (.iload_n 3, 1) := by decide +kernel
theorem dX1_strongest_20 : decode cX1_strongest 20 = .ok (.aaload, 1) := by decide +kernel
theorem dX1_strongest_21 : decode cX1_strongest 21 = .ok (.getfield 30, 3) := by decide +kernel
theorem dX1_strongest_24 : decode cX1_strongest 24 = .ok (.ifCond .le 35, 3) := by decide +kernel
theorem dX1_strongest_27 : decode cX1_strongest 27 = .ok (.iload_n 1, 1) := by decide +kernel
theorem dX1_strongest_28 : decode cX1_strongest 28 = .ok (.bipush (-9), 2) := by decide +kernel
theorem dX1_strongest_30 : decode cX1_strongest 30 = .ok (.if_icmp .eq 17, 3) := by decide +kernel
theorem dX1_strongest_33 : decode cX1_strongest 33 = .ok (.aload_n 0, 1) := by decide +kernel
theorem dX1_strongest_34 : decode cX1_strongest 34 = .ok (.getfield 11, 3) := by decide +kernel
theorem dX1_strongest_37 : decode cX1_strongest 37 = .ok (.iload_n 3, 1) := by decide +kernel
theorem dX1_strongest_38 : decode cX1_strongest 38 = .ok (.aaload, 1) := by decide +kernel
theorem dX1_strongest_39 : decode cX1_strongest 39 = .ok (.invokevirtual 36, 3) := by decide +kernel
theorem dX1_strongest_42 : decode cX1_strongest 42 = .ok (.fload_n 2, 1) := by decide +kernel
theorem dX1_strongest_43 : decode cX1_strongest 43 = .ok (.fcmp .l, 1) := by decide +kernel
theorem dX1_strongest_44 : decode cX1_strongest 44 = .ok (.ifCond .le 15, 3) := by decide +kernel
theorem dX1_strongest_47 : decode cX1_strongest 47 = .ok (.iload_n 3, 1) := by decide +kernel
theorem dX1_strongest_48 : decode cX1_strongest 48 = .ok (.istore_n 1, 1) := by decide +kernel
theorem dX1_strongest_49 : decode cX1_strongest 49 = .ok (.aload_n 0, 1) := by decide +kernel
theorem dX1_strongest_50 : decode cX1_strongest 50 = .ok (.getfield 11, 3) := by decide +kernel
theorem dX1_strongest_53 : decode cX1_strongest 53 = .ok (.iload_n 3, 1) := by decide +kernel
theorem dX1_strongest_54 : decode cX1_strongest 54 = .ok (.aaload, 1) := by decide +kernel
theorem dX1_strongest_55 : decode cX1_strongest 55 = .ok (.invokevirtual 36, 3) := by decide +kernel
theorem dX1_strongest_58 : decode cX1_strongest 58 = .ok (.fstore_n 2, 1) := by decide +kernel
theorem dX1_strongest_59 : decode cX1_strongest 59 = .ok (.iinc 3 1, 3) := by decide +kernel
theorem dX1_strongest_62 : decode cX1_strongest 62 = .ok (.goto (-55), 3) := by decide +kernel
theorem dX1_strongest_65 : decode cX1_strongest 65 = .ok (.iload_n 1, 1) := by decide +kernel
theorem dX1_strongest_66 : decode cX1_strongest 66 = .ok (.ireturn, 1) := by decide +kernel
theorem dX1_meanStrength_0 : decode cX1_meanStrength 0 = .ok (.fconst 0, 1) := by decide +kernel
theorem dX1_meanStrength_1 : decode cX1_meanStrength 1 = .ok (.fstore_n 1, 1) := by decide +kernel
theorem dX1_meanStrength_2 : decode cX1_meanStrength 2 = .ok (.iconst 0, 1) := by decide +kernel
theorem dX1_meanStrength_3 : decode cX1_meanStrength 3 = .ok (.istore_n 2, 1) := by decide +kernel
theorem dX1_meanStrength_4 : decode cX1_meanStrength 4 = .ok (.iconst 0, 1) := by decide +kernel
theorem dX1_meanStrength_5 : decode cX1_meanStrength 5 = .ok (.istore_n 3, 1) := by decide +kernel
theorem dX1_meanStrength_6 : decode cX1_meanStrength 6 = .ok (.iload_n 3, 1) := by decide +kernel
theorem dX1_meanStrength_7 : decode cX1_meanStrength 7 = .ok (.aload_n 0, 1) := by decide +kernel
theorem dX1_meanStrength_8 : decode cX1_meanStrength 8 = .ok (.getfield 18, 3) := by decide +kernel
theorem dX1_meanStrength_11 : decode cX1_meanStrength 11 = .ok (.if_icmp .ge 36, 3) := by decide +kernel
theorem dX1_meanStrength_14 : decode cX1_meanStrength 14 = .ok (.aload_n 0, 1) := by decide +kernel
theorem dX1_meanStrength_15 : decode cX1_meanStrength 15 = .ok (.getfield 11, 3) := by decide +kernel
theorem dX1_meanStrength_18 : decode cX1_meanStrength 18 = .ok (.iload_n 3, 1) := by decide +kernel
theorem dX1_meanStrength_19 : decode cX1_meanStrength 19 = .ok (.aaload, 1) := by decide +kernel
theorem dX1_meanStrength_20 : decode cX1_meanStrength 20 = .ok (.getfield 30, 3) := by decide +kernel
theorem dX1_meanStrength_23 : decode cX1_meanStrength 23 = .ok (.ifCond .le 18, 3) := by decide +kernel
theorem dX1_meanStrength_26 : decode cX1_meanStrength 26 = .ok (.fload_n 1, 1) := by decide +kernel
theorem dX1_meanStrength_27 : decode cX1_meanStrength 27 = .ok (.aload_n 0, 1) := by decide +kernel
theorem dX1_meanStrength_28 : decode cX1_meanStrength 28 = .ok (.getfield 11, 3) := by decide +kernel
theorem dX1_meanStrength_31 : decode cX1_meanStrength 31 = .ok (.iload_n 3, 1) := by decide +kernel
theorem dX1_meanStrength_32 : decode cX1_meanStrength 32 = .ok (.aaload, 1) := by decide +kernel
theorem dX1_meanStrength_33 : decode cX1_meanStrength 33 = .ok (.invokevirtual 36, 3) := by decide +kernel
theorem dX1_meanStrength_36 : decode cX1_meanStrength 36 = .ok (.fadd, 1) := by decide +kernel
theorem dX1_meanStrength_37 : decode cX1_meanStrength 37 = .ok (.fstore_n 1, 1) := by decide +kernel
theorem dX1_meanStrength_38 : decode cX1_meanStrength 38 = .ok (.iinc 2 1, 3) := by decide +kernel
theorem dX1_meanStrength_41 : decode cX1_meanStrength 41 = .ok (.iinc 3 1, 3) := by decide +kernel
theorem dX1_meanStrength_44 : decode cX1_meanStrength 44 = .ok (.goto (-38), 3) := by decide +kernel
theorem dX1_meanStrength_47 : decode cX1_meanStrength 47 = .ok (.iload_n 2, 1) := by decide +kernel
theorem dX1_meanStrength_48 : decode cX1_meanStrength 48 = .ok (.ifCond .ne 7, 3) := by decide +kernel
theorem dX1_meanStrength_51 : decode cX1_meanStrength 51 = .ok (.fconst 0, 1) := by decide +kernel
theorem dX1_meanStrength_52 : decode cX1_meanStrength 52 = .ok (.goto 7, 3) := by decide +kernel
theorem dX1_meanStrength_55 : decode cX1_meanStrength 55 = .ok (.fload_n 1, 1) := by decide +kernel
theorem dX1_meanStrength_56 : decode cX1_meanStrength 56 = .ok (.iload_n 2, 1) := by decide +kernel
theorem dX1_meanStrength_57 : decode cX1_meanStrength 57 = .ok (.i2f, 1) := by decide +kernel
theorem dX1_meanStrength_58 : decode cX1_meanStrength 58 = .ok (.fdiv, 1) := by decide +kernel
theorem dX1_meanStrength_59 : decode cX1_meanStrength 59 = .ok (.freturn, 1) := by decide +kernel
theorem dX2_init_0 : decode cX2_init 0 = .ok (.aload_n 0, 1) := by decide +kernel
theorem dX2_init_1 : decode cX2_init 1 = .ok (.invokespecial 3, 3) := by decide +kernel
theorem dX2_init_4 : decode cX2_init 4 = .ok (.aload_n 0, 1) := by decide +kernel
theorem dX2_init_5 : decode cX2_init 5 = .ok (.iload_n 1, 1) := by decide +kernel
theorem dX2_init_6 : decode cX2_init 6 = .ok (.putfield 9, 3) := by decide +kernel
theorem dX2_init_9 : decode cX2_init 9 = .ok (.aload_n 0, 1) := by decide +kernel
theorem dX2_init_10 : decode cX2_init 10 = .ok (.bipush 41, 2) := by decide +kernel
theorem dX2_init_12 : decode cX2_init 12 = .ok (.newarray .int, 2) := by decide +kernel
theorem dX2_init_14 : decode cX2_init 14 = .ok (.putfield 15, 3) := by decide +kernel
theorem dX2_init_17 : decode cX2_init 17 = .ok (.return_, 1) := by decide +kernel
theorem dX2_measure_0 : decode cX2_measure 0 = .ok (.aload_n 0, 1) := by decide +kernel
theorem dX2_measure_1 : decode cX2_measure 1 = .ok (.getfield 19, 3) := by decide +kernel
theorem dX2_measure_4 : decode cX2_measure 4 = .ok (.aload_n 1, 1) := by decide +kernel
theorem dX2_measure_5 : decode cX2_measure 5 = .ok (.getfield 23, 3) := by decide +kernel
theorem dX2_measure_8 : decode cX2_measure 8 = .ok (.if_icmp .ne 26, 3) := by decide +kernel
theorem dX2_measure_11 : decode cX2_measure 11 = .ok (.aload_n 0, 1) := by decide +kernel
theorem dX2_measure_12 : decode cX2_measure 12 = .ok (.getfield 26, 3) := by decide +kernel
theorem dX2_measure_15 : decode cX2_measure 15 = .ok (.aload_n 1, 1) := by decide +kernel
theorem dX2_measure_16 : decode cX2_measure 16 = .ok (.getfield 29, 3) := by decide +kernel
theorem dX2_measure_19 : decode cX2_measure 19 = .ok (.if_icmp .ne 15, 3) := by decide +kernel
theorem dX2_measure_22 : decode cX2_measure 22 = .ok (.aload_n 0, 1) := by decide +kernel
theorem dX2_measure_23 : decode cX2_measure 23 = .ok (.getfield 30, 3) := by decide +kernel
theorem dX2_measure_26 : decode cX2_measure 26 = .ok (.aload_n 1, 1) := by decide +kernel
theorem dX2_measure_27 : decode cX2_measure 27 = .ok (.getfield 33, 3) := by decide +kernel
theorem dX2_measure_30 : decode cX2_measure 30 = .ok (.if_icmp .ne 4, 3) := by decide +kernel
theorem dX2_measure_33 : decode cX2_measure 33 = .ok (.return_, 1) := by decide +kernel
theorem dX2_measure_34 : decode cX2_measure 34 = .ok (.aload_n 0, 1) := by decide +kernel
theorem dX2_measure_35 : decode cX2_measure 35 = .ok (.aload_n 1, 1) := by decide +kernel
theorem dX2_measure_36 : decode cX2_measure 36 = .ok (.getfield 23, 3) := by decide +kernel
theorem dX2_measure_39 : decode cX2_measure 39 = .ok (.putfield 19, 3) := by decide +kernel
theorem dX2_measure_42 : decode cX2_measure 42 = .ok (.aload_n 0, 1) := by decide +kernel
theorem dX2_measure_43 : decode cX2_measure 43 = .ok (.aload_n 1, 1) := by decide +kernel
theorem dX2_measure_44 : decode cX2_measure 44 = .ok (.getfield 29, 3) := by decide +kernel
theorem dX2_measure_47 : decode cX2_measure 47 = .ok (.putfield 26, 3) := by decide +kernel
theorem dX2_measure_50 : decode cX2_measure 50 = .ok (.aload_n 0, 1) := by decide +kernel
theorem dX2_measure_51 : decode cX2_measure 51 = .ok (.aload_n 1, 1) := by decide +kernel
theorem dX2_measure_52 : decode cX2_measure 52 = .ok (.getfield 33, 3) := by decide +kernel
theorem dX2_measure_55 : decode cX2_measure 55 = .ok (.putfield 30, 3) := by decide +kernel
theorem dX2_measure_58 : decode cX2_measure 58 = .ok (.aload_n 0, 1) := by decide +kernel
theorem dX2_measure_59 : decode cX2_measure 59 = .ok (.aload_n 0, 1) := by decide +kernel
theorem dX2_measure_60 : decode cX2_measure 60 = .ok (.getfield 9, 3) := by decide +kernel
theorem dX2_measure_63 : decode cX2_measure 63 = .ok (.ifCond .eq 12, 3) := by decide +kernel
theorem dX2_measure_66 : decode cX2_measure 66 = .ok (.iconst 2, 1) := by decide +kernel
theorem dX2_measure_67 : decode cX2_measure 67 = .ok (.aload_n 0, 1) := by decide +kernel
theorem dX2_measure_68 : decode cX2_measure 68 = .ok (.getfield 30, 3) := by decide +kernel
theorem dX2_measure_71 : decode cX2_measure 71 = .ok (.imul, 1) := by decide +kernel
theorem dX2_measure_72 : decode cX2_measure 72 = .ok (.goto 7, 3) := by decide +kernel
theorem dX2_measure_75 : decode cX2_measure 75 = .ok (.aload_n 0, 1) := by decide +kernel
theorem dX2_measure_76 : decode cX2_measure 76 = .ok (.getfield 19, 3) := by decide +kernel
theorem dX2_measure_79 : decode cX2_measure 79 = .ok (.bipush 40, 2) := by decide +kernel
theorem dX2_measure_81 : decode cX2_measure 81 = .ok (.invokestatic 34, 3) := by decide +kernel
theorem dX2_measure_84 : decode cX2_measure 84 = .ok (.putfield 40, 3) := by decide +kernel
theorem dX2_measure_87 : decode cX2_measure 87 = .ok (.iconst 0, 1) := by decide +kernel
theorem dX2_measure_88 : decode cX2_measure 88 = .ok (.istore_n 2, 1) := by decide +kernel
theorem dX2_measure_89 : decode cX2_measure 89 = .ok (.iload_n 2, 1) := by decide +kernel
theorem dX2_measure_90 : decode cX2_measure 90 = .ok (.aload_n 0, 1) := by decide +kernel
theorem dX2_measure_91 : decode cX2_measure 91 = .ok (.getfield 40, 3) := by decide +kernel
theorem dX2_measure_94 : decode cX2_measure 94 = .ok (.if_icmp .gt 16, 3) := by decide +kernel
theorem dX2_measure_97 : decode cX2_measure 97 = .ok (.aload_n 0, 1) := by decide +kernel
theorem dX2_measure_98 : decode cX2_measure 98 = .ok (.getfield 15, 3) := by decide +kernel
theorem dX2_measure_101 : decode cX2_measure 101 = .ok (.iload_n 2, 1) := by decide +kernel
theorem dX2_measure_102 : decode cX2_measure 102 = .ok (.iconst 0, 1) := by decide +kernel
theorem dX2_measure_103 : decode cX2_measure 103 = .ok (.iastore, 1) := by decide +kernel
theorem dX2_measure_104 : decode cX2_measure 104 = .ok (.iinc 2 1, 3) := by decide +kernel
theorem dX2_measure_107 : decode cX2_measure 107 = .ok (.goto (-18), 3) := by decide +kernel
theorem dX2_measure_110 : decode cX2_measure 110 = .ok (.iconst 0, 1) := by decide +kernel
theorem dX2_measure_111 : decode cX2_measure 111 = .ok (.istore_n 2, 1) := by decide +kernel
theorem dX2_measure_112 : decode cX2_measure 112 = .ok (.iload_n 2, 1) := by decide +kernel
theorem dX2_measure_113 : decode cX2_measure 113 = .ok (.aload_n 0, 1) := by decide +kernel
theorem dX2_measure_114 : decode cX2_measure 114 = .ok (.getfield 19, 3) := by decide +kernel
theorem dX2_measure_117 : decode cX2_measure 117 = .ok (.if_icmp .ge 61, 3) := by decide +kernel
theorem dX2_measure_120 : decode cX2_measure 120 = .ok (.aload_n 1, 1) := by decide +kernel
theorem dX2_measure_121 : decode cX2_measure 121 = .ok (.iload_n 2, 1) := by decide +kernel
theorem dX2_measure_122 : decode cX2_measure 122 = .ok (.invokevirtual 43, 3) := by decide +kernel
theorem dX2_measure_125 : decode cX2_measure 125 = .ok (.istore_n 3, 1) := by decide +kernel
theorem dX2_measure_126 : decode cX2_measure 126 = .ok (.iconst 0, 1) := by decide +kernel
theorem dX2_measure_127 : decode cX2_measure 127 = .ok (.istore 4, 2) := by decide +kernel
theorem dX2_measure_129 : decode cX2_measure 129 = .ok (.iload 4, 2) := by decide +kernel
theorem dX2_measure_131 : decode cX2_measure 131 = .ok (.iconst 2, 1) := by decide +kernel
theorem dX2_measure_132 : decode cX2_measure 132 = .ok (.aload_n 0, 1) := by decide +kernel
theorem dX2_measure_133 : decode cX2_measure 133 = .ok (.getfield 30, 3) := by decide +kernel
theorem dX2_measure_136 : decode cX2_measure 136 = .ok (.imul, 1) := by decide +kernel
theorem dX2_measure_137 : decode cX2_measure 137 = .ok (.if_icmp .ge 35, 3) := by decide +kernel
theorem dX2_measure_140 : decode cX2_measure 140 = .ok (.aload_n 0, 1) := by decide +kernel
theorem dX2_measure_141 : decode cX2_measure 141 = .ok (.aload_n 0, 1) := by decide +kernel
theorem dX2_measure_142 : decode cX2_measure 142 = .ok (.getfield 9, 3) := by decide +kernel
theorem dX2_measure_145 : decode cX2_measure 145 = .ok (.ifCond .eq 8, 3) := by decide +kernel
theorem dX2_measure_148 : decode cX2_measure 148 = .ok (.iload 4, 2) := by decide +kernel
theorem dX2_measure_150 : decode cX2_measure 150 = .ok (.goto 4, 3) := by decide +kernel
theorem dX2_measure_153 : decode cX2_measure 153 = .ok (.iload_n 2, 1) := by decide +kernel
theorem dX2_measure_154 : decode cX2_measure 154 = .ok (.iconst 1, 1) := by decide +kernel
theorem dX2_measure_155 : decode cX2_measure 155 = .ok (.iadd, 1) := by decide +kernel
theorem dX2_measure_156 : decode cX2_measure 156 = .ok (.aload_n 1, 1) := by decide +kernel
theorem dX2_measure_157 : decode cX2_measure 157 = .ok (.iload_n 3, 1) := by decide +kernel
theorem dX2_measure_158 : decode cX2_measure 158 = .ok (.iload 4, 2) := by decide +kernel
theorem dX2_measure_160 : decode cX2_measure 160 = .ok (.invokevirtual 47, 3) := by decide +kernel
theorem dX2_measure_163 : decode cX2_measure 163 = .ok (.invokevirtual 50, 3) := by decide +kernel
theorem dX2_measure_166 : decode cX2_measure 166 = .ok (.iinc 4 1, 3) := by decide +kernel
theorem dX2_measure_169 : decode cX2_measure 169 = .ok (.goto (-40), 3) := by decide +kernel
theorem dX2_measure_172 : decode cX2_measure 172 = .ok (.iinc 2 1, 3) := by decide +kernel
theorem dX2_measure_175 : decode cX2_measure 175 = .ok (.goto (-63), 3) := by decide +kernel
theorem dX2_measure_178 : decode cX2_measure 178 = .ok (.iconst 0, 1) := by decide +kernel
theorem dX2_measure_179 : decode cX2_measure 179 = .ok (.istore_n 2, 1) := by decide +kernel
theorem dX2_measure_180 : decode cX2_measure 180 = .ok (.iload_n 2, 1) := by decide +kernel
theorem dX2_measure_181 : decode cX2_measure 181 = .ok (.aload_n 0, 1) := by decide +kernel
theorem dX2_measure_182 : decode cX2_measure 182 = .ok (.getfield 40, 3) := by decide +kernel
theorem dX2_measure_185 : decode cX2_measure 185 = .ok (.if_icmp .ge 26, 3) := by decide +kernel
theorem dX2_measure_188 : decode cX2_measure 188 = .ok (.aload_n 0, 1) := by decide +kernel
theorem dX2_measure_189 : decode cX2_measure 189 = .ok (.getfield 15, 3) := by decide +kernel
theorem dX2_measure_192 : decode cX2_measure 192 = .ok (.iload_n 2, 1) := by decide +kernel
theorem dX2_measure_193 : decode cX2_measure 193 = .ok (.iconst 1, 1) := by decide +kernel
theorem dX2_measure_194 : decode cX2_measure 194 = .ok (.iadd, 1) := by decide +kernel
theorem dX2_measure_195 : decode cX2_measure 195 = .ok (.dup2, 1) := by decide +kernel
theorem dX2_measure_196 : decode cX2_measure 196 = .ok (.iaload, 1) := by decide +kernel
theorem dX2_measure_197 : decode cX2_measure 197 = .ok (.aload_n 0, 1) := by decide +kernel
theorem dX2_measure_198 : decode cX2_measure 198 = .ok (.getfield 15, 3) := by decide +kernel
theorem dX2_measure_201 : decode cX2_measure 201 = .ok (.iload_n 2, 1) := by decide +kernel
theorem dX2_measure_202 : decode cX2_measure 202 = .ok (.iaload, 1) := by decide +kernel
theorem dX2_measure_203 : decode cX2_measure 203 = .ok (.iadd, 1) := by decide +kernel
theorem dX2_measure_204 : decode cX2_measure 204 = .ok (.iastore, 1) := by decide +kernel
theorem dX2_measure_205 : decode cX2_measure 205 = .ok (.iinc 2 1, 3) := by decide +kernel
theorem dX2_measure_208 : decode cX2_measure 208 = .ok (.goto (-28), 3) := by decide +kernel
theorem dX2_measure_211 : decode cX2_measure 211 = .ok (.return_, 1) := by decide +kernel
theorem dX2_addAhead_0 : decode cX2_addAhead 0 = .ok (.aload_n 0, 1) := by decide +kernel
theorem dX2_addAhead_1 : decode cX2_addAhead 1 = .ok (.iload_n 1, 1) := by decide +kernel
theorem dX2_addAhead_2 : decode cX2_addAhead 2 = .ok (.invokevirtual 54, 3) := by decide +kernel
theorem dX2_addAhead_5 : decode cX2_addAhead 5 = .ok (.ifCond .eq 13, 3) := by decide +kernel
theorem dX2_addAhead_8 : decode cX2_addAhead 8 = .ok (.aload_n 0, 1) := by decide +kernel
theorem dX2_addAhead_9 : decode cX2_addAhead 9 = .ok (.getfield 15, 3) := by decide +kernel
theorem dX2_addAhead_12 : decode cX2_addAhead 12 = .ok (.iload_n 1, 1) := by decide +kernel
theorem dX2_addAhead_13 : decode cX2_addAhead 13 = .ok (.dup2, 1) := by decide +kernel
theorem dX2_addAhead_14 : decode cX2_addAhead 14 = .ok (.iaload, 1) := by decide +kernel
theorem dX2_addAhead_15 : decode cX2_addAhead 15 = .ok (.iload_n 2, 1) := by decide +kernel
theorem dX2_addAhead_16 : decode cX2_addAhead 16 = .ok (.iadd, 1) := by decide +kernel
theorem dX2_addAhead_17 : decode cX2_addAhead 17 = .ok (.iastore, 1) := by decide +kernel
theorem dX2_addAhead_18 : decode cX2_addAhead 18 = .ok (.return_, 1) := by decide +kernel
theorem dX2_reach_0 : decode cX2_reach 0 = .ok (.iload_n 1, 1) := by decide +kernel
theorem dX2_reach_1 : decode cX2_reach 1 = .ok (.ifCond .lt 15, 3) := by decide +kernel
theorem dX2_reach_4 : decode cX2_reach 4 = .ok (.iload_n 1, 1) := by decide +kernel
theorem dX2_reach_5 : decode cX2_reach 5 = .ok (.aload_n 0, 1) := by decide +kernel
theorem dX2_reach_6 : decode cX2_reach 6 = .ok (.getfield 40, 3) := by decide +kernel
theorem dX2_reach_9 : decode cX2_reach 9 = .ok (.if_icmp .gt 7, 3) := by decide +kernel
theorem dX2_reach_12 : decode cX2_reach 12 = .ok (.iconst 1, 1) := by decide +kernel
theorem dX2_reach_13 : decode cX2_reach 13 = .ok (.goto 4, 3) := by decide +kernel
theorem dX2_reach_16 : decode cX2_reach 16 = .ok (.iconst 0, 1) := by decide +kernel
theorem dX2_reach_17 : decode cX2_reach 17 = .ok (.ireturn, 1) := by decide +kernel
theorem dX2_amountAt_0 : decode cX2_amountAt 0 = .ok (.aload_n 0, 1) := by decide +kernel
theorem dX2_amountAt_1 : decode cX2_amountAt 1 = .ok (.iload_n 1, 1) := by decide +kernel
theorem dX2_amountAt_2 : decode cX2_amountAt 2 = .ok (.invokevirtual 54, 3) := by decide +kernel
theorem dX2_amountAt_5 : decode cX2_amountAt 5 = .ok (.ifCond .eq 12, 3) := by decide +kernel
theorem dX2_amountAt_8 : decode cX2_amountAt 8 = .ok (.aload_n 0, 1) := by decide +kernel
theorem dX2_amountAt_9 : decode cX2_amountAt 9 = .ok (.getfield 15, 3) := by decide +kernel
theorem dX2_amountAt_12 : decode cX2_amountAt 12 = .ok (.iload_n 1, 1) := by decide +kernel
theorem dX2_amountAt_13 : decode cX2_amountAt 13 = .ok (.iaload, 1) := by decide +kernel
theorem dX2_amountAt_14 : decode cX2_amountAt 14 = .ok (.goto 4, 3) := by decide +kernel
theorem dX2_amountAt_17 : decode cX2_amountAt 17 = .ok (.iconst 0, 1) := by decide +kernel
theorem dX2_amountAt_18 : decode cX2_amountAt 18 = .ok (.ireturn, 1) := by decide +kernel
theorem dX2_hold_0 : decode cX2_hold 0 = .ok (.aload_n 0, 1) := by decide +kernel
theorem dX2_hold_1 : decode cX2_hold 1 = .ok (.aload_n 0, 1) := by decide +kernel
theorem dX2_hold_2 : decode cX2_hold 2 = .ok (.getfield 40, 3) := by decide +kernel
theorem dX2_hold_5 : decode cX2_hold 5 = .ok (.invokevirtual 58, 3) := by decide +kernel
theorem dX2_hold_8 : decode cX2_hold 8 = .ok (.ireturn, 1) := by decide +kernel
theorem dX2_leastDip_0 : decode cX2_leastDip 0 = .ok (.aload_n 0, 1) := by decide +kernel
theorem dX2_leastDip_1 : decode cX2_leastDip 1 = .ok (.iconst 0, 1) := by decide +kernel
theorem dX2_leastDip_2 : decode cX2_leastDip 2 = .ok (.iload_n 1, 1) := by decide +kernel
theorem dX2_leastDip_3 : decode cX2_leastDip 3 = .ok (.invokevirtual 61, 3) := by decide +kernel
theorem dX2_leastDip_6 : decode cX2_leastDip 6 = .ok (.ireturn, 1) := by decide +kernel
theorem dX2_leastDipFrom_0 : decode cX2_leastDipFrom 0 = .ok (.iload_n 1, 1) := by decide +kernel
theorem dX2_leastDipFrom_1 : decode cX2_leastDipFrom 1 = .ok (.iconst 0, 1) := by decide +kernel
theorem dX2_leastDipFrom_2 : decode cX2_leastDipFrom 2 = .ok (.invokestatic 64, 3) := by decide +kernel
theorem dX2_leastDipFrom_5 : decode cX2_leastDipFrom 5 = .ok (.istore_n 3, 1) := by decide +kernel
theorem dX2_leastDipFrom_6 : decode cX2_leastDipFrom 6 = .ok (.iload_n 3, 1) := by decide +kernel
theorem dX2_leastDipFrom_7 : decode cX2_leastDipFrom 7 = .ok (.aload_n 0, 1) := by decide +kernel
theorem dX2_leastDipFrom_8 : decode cX2_leastDipFrom 8 = .ok (.getfield 40, 3) := by decide +kernel
theorem dX2_leastDipFrom_11 : decode cX2_leastDipFrom 11 = .ok (.if_icmp .gt 21, 3) := by decide +kernel
theorem dX2_leastDipFrom_14 : decode cX2_leastDipFrom 14 = .ok (.aload_n 0, 1) := by decide +kernel
theorem dX2_leastDipFrom_15 : decode cX2_leastDipFrom 15 = .ok (.getfield 15, 3) := by decide +kernel
theorem dX2_leastDipFrom_18 : decode cX2_leastDipFrom 18 = .ok (.iload_n 3, 1) := by decide +kernel
theorem dX2_leastDipFrom_19 : decode cX2_leastDipFrom 19 = .ok (.iaload, 1) := by decide +kernel
theorem dX2_leastDipFrom_20 : decode cX2_leastDipFrom 20 = .ok (.iload_n 2, 1) := by decide +kernel
theorem dX2_leastDipFrom_21 : decode cX2_leastDipFrom 21 = .ok (.if_icmp .lt 5, 3) := by decide +kernel
theorem dX2_leastDipFrom_24 : decode cX2_leastDipFrom 24 = .ok (.iload_n 3, 1) := by decide +kernel
theorem dX2_leastDipFrom_25 : decode cX2_leastDipFrom 25 = .ok (.ireturn, 1) := by decide +kernel
theorem dX2_leastDipFrom_26 : decode cX2_leastDipFrom 26 = .ok (.iinc 3 1, 3) := by decide +kernel
theorem dX2_leastDipFrom_29 : decode cX2_leastDipFrom 29 = .ok (.goto (-23), 3) := by decide +kernel
theorem dX2_leastDipFrom_32 : decode cX2_leastDipFrom 32 = .ok (.bipush 41, 2) := by decide +kernel
theorem dX2_leastDipFrom_34 : decode cX2_leastDipFrom 34 = .ok (.ireturn, 1) := by decide +kernel
theorem dX2_markAt_0 : decode cX2_markAt 0 = .ok (.aload_n 0, 1) := by decide +kernel
theorem dX2_markAt_1 : decode cX2_markAt 1 = .ok (.invokevirtual 67, 3) := by decide +kernel
theorem dX2_markAt_4 : decode cX2_markAt 4 = .ok (.iload_n 2, 1) := by decide +kernel
theorem dX2_markAt_5 : decode cX2_markAt 5 = .ok (.imul, 1) := by decide +kernel
theorem dX2_markAt_6 : decode cX2_markAt 6 = .ok (.istore_n 3, 1) := by decide +kernel
theorem dX2_markAt_7 : decode cX2_markAt 7 = .ok (.iconst 0, 1) := by decide +kernel
theorem dX2_markAt_8 : decode cX2_markAt 8 = .ok (.istore 4, 2) := by decide +kernel
theorem dX2_markAt_10 : decode cX2_markAt 10 = .ok (.iload 4, 2) := by decide +kernel
theorem dX2_markAt_12 : decode cX2_markAt 12 = .ok (.aload_n 0, 1) := by decide +kernel
theorem dX2_markAt_13 : decode cX2_markAt 13 = .ok (.getfield 40, 3) := by decide +kernel
theorem dX2_markAt_16 : decode cX2_markAt 16 = .ok (.if_icmp .ge 25, 3) := by decide +kernel
theorem dX2_markAt_19 : decode cX2_markAt 19 = .ok (.aload_n 0, 1) := by decide +kernel
theorem dX2_markAt_20 : decode cX2_markAt 20 = .ok (.getfield 15, 3) := by decide +kernel
theorem dX2_markAt_23 : decode cX2_markAt 23 = .ok (.iload 4, 2) := by decide +kernel
theorem dX2_markAt_25 : decode cX2_markAt 25 = .ok (.iaload, 1) := by decide +kernel
theorem dX2_markAt_26 : decode cX2_markAt 26 = .ok (.iload_n 1, 1) := by decide +kernel
theorem dX2_markAt_27 : decode cX2_markAt 27 = .ok (.imul, 1) := by decide +kernel
theorem dX2_markAt_28 : decode cX2_markAt 28 = .ok (.iload_n 3, 1) := by decide +kernel
theorem dX2_markAt_29 : decode cX2_markAt 29 = .ok (.if_icmp .lt 6, 3) := by decide +kernel
theorem dX2_markAt_32 : decode cX2_markAt 32 = .ok (.iload 4, 2) := by decide +kernel
theorem dX2_markAt_34 : decode cX2_markAt 34 = .ok (.ireturn, 1) := by decide +kernel
theorem dX2_markAt_35 : decode cX2_markAt 35 = .ok (.iinc 4 1, 3) := by decide +kernel
theorem dX2_markAt_38 : decode cX2_markAt 38 = .ok (.goto (-28), 3) := by decide +kernel
theorem dX2_markAt_41 : decode cX2_markAt 41 = .ok (.aload_n 0, 1) := by decide +kernel
theorem dX2_markAt_42 : decode cX2_markAt 42 = .ok (.getfield 40, 3) := by decide +kernel
theorem dX2_markAt_45 : decode cX2_markAt 45 = .ok (.ireturn, 1) := by decide +kernel
theorem dX3_init_0 : decode cX3_init 0 = .ok (.aload_n 0, 1) := by decide +kernel
theorem dX3_init_1 : decode cX3_init 1 = .ok (.invokespecial 3, 3) := by decide +kernel
theorem dX3_init_4 : decode cX3_init 4 = .ok (.aload_n 0, 1) := by decide +kernel
theorem dX3_init_5 : decode cX3_init 5 = .ok (.bipush 8, 2) := by decide +kernel
theorem dX3_init_7 : decode cX3_init 7 = .ok (.anewarray 9, 3) := by decide +kernel
theorem dX3_init_10 : decode cX3_init 10 = .ok (.putfield 11, 3) := by decide +kernel
theorem dX3_init_13 : decode cX3_init 13 = .ok (.iconst 0, 1) := by decide +kernel
theorem dX3_init_14 : decode cX3_init 14 = .ok (.istore_n 1, 1) := by decide +kernel
theorem dX3_init_15 : decode cX3_init 15 = .ok (.iload_n 1, 1) := by decide +kernel
theorem dX3_init_16 : decode cX3_init 16 = .ok (.bipush 8, 2) := by decide +kernel
theorem dX3_init_18 : decode cX3_init 18 = .ok (.if_icmp .ge 22, 3) := by decide +kernel
theorem dX3_init_21 : decode cX3_init 21 = .ok (.aload_n 0, 1) := by decide +kernel
theorem dX3_init_22 : decode cX3_init 22 = .ok (.getfield 11, 3) := by decide +kernel
theorem dX3_init_25 : decode cX3_init 25 = .ok (.iload_n 1, 1) := by decide +kernel
theorem dX3_init_26 : decode cX3_init 26 = .ok (.new 9, 3) := by decide +kernel
theorem dX3_init_29 : decode cX3_init 29 = .ok (.dup, 1) := by decide +kernel
theorem dX3_init_30 : decode cX3_init 30 = .ok (.invokespecial 17, 3) := by decide +kernel
theorem dX3_init_33 : decode cX3_init 33 = .ok (.aastore, 1) := by decide +kernel
theorem dX3_init_34 : decode cX3_init 34 = .ok (.iinc 1 1, 3) := by decide +kernel
theorem dX3_init_37 : decode cX3_init 37 = .ok (.goto (-22), 3) := by decide +kernel
theorem dX3_init_40 : decode cX3_init 40 = .ok (.return_, 1) := by decide +kernel
theorem dX3_remember_0 : decode cX3_remember 0 = .ok (.aload_n 0, 1) := by decide +kernel
theorem dX3_remember_1 : decode cX3_remember 1 = .ok (.aload_n 0, 1) := by decide +kernel
theorem dX3_remember_2 : decode cX3_remember 2 = .ok (.getfield 18, 3) := by decide +kernel
theorem dX3_remember_5 : decode cX3_remember 5 = .ok (.iconst 1, 1) := by decide +kernel
theorem dX3_remember_6 : decode cX3_remember 6 = .ok (.iadd, 1) := by decide +kernel
theorem dX3_remember_7 : decode cX3_remember 7 = .ok (.bipush 8, 2) := by decide +kernel
theorem dX3_remember_9 : decode cX3_remember 9 = .ok (.irem, 1) := by decide +kernel
theorem dX3_remember_10 : decode cX3_remember 10 = .ok (.putfield 18, 3) := by decide +kernel
theorem dX3_remember_13 : decode cX3_remember 13 = .ok (.aload_n 0, 1) := by decide +kernel
theorem dX3_remember_14 : decode cX3_remember 14 = .ok (.getfield 11, 3) := by decide +kernel
theorem dX3_remember_17 : decode cX3_remember 17 = .ok (.aload_n 0, 1) := by decide +kernel
theorem dX3_remember_18 : decode cX3_remember 18 = .ok (.getfield 18, 3) := by decide +kernel
theorem dX3_remember_21 : decode cX3_remember 21 = .ok (.aaload, 1) := by decide +kernel
theorem dX3_remember_22 : decode cX3_remember 22 = .ok (.aload_n 1, 1) := by decide +kernel
theorem dX3_remember_23 : decode cX3_remember 23 = .ok (.invokevirtual 22, 3) := by decide +kernel
theorem dX3_remember_26 : decode cX3_remember 26 = .ok (.aload_n 0, 1) := by decide +kernel
theorem dX3_remember_27 : decode cX3_remember 27 = .ok (.aload_n 0, 1) := by decide +kernel
theorem dX3_remember_28 : decode cX3_remember 28 = .ok (.getfield 26, 3) := by decide +kernel
theorem dX3_remember_31 : decode cX3_remember 31 = .ok (.iconst 1, 1) := by decide +kernel
theorem dX3_remember_32 : decode cX3_remember 32 = .ok (.iadd, 1) := by decide +kernel
theorem dX3_remember_33 : decode cX3_remember 33 = .ok (.bipush 8, 2) := by decide +kernel
theorem dX3_remember_35 : decode cX3_remember 35 = .ok (.invokestatic 29, 3) := by decide +kernel
theorem dX3_remember_38 : decode cX3_remember 38 = .ok (.putfield 26, 3) := by decide +kernel
theorem dX3_remember_41 : decode cX3_remember 41 = .ok (.return_, 1) := by decide +kernel
theorem dX3_recallInto_0 : decode cX3_recallInto 0 = .ok (.aload_n 0, 1) := by decide +kernel
theorem dX3_recallInto_1 : decode cX3_recallInto 1 = .ok (.getfield 26, 3) := by decide +kernel
theorem dX3_recallInto_4 : decode cX3_recallInto 4 = .ok (.ifCond .ne 5, 3) := by decide +kernel
theorem dX3_recallInto_7 : decode cX3_recallInto 7 = .ok (.iconst 0, 1) := by decide +kernel
theorem dX3_recallInto_8 : decode cX3_recallInto 8 = .ok (.ireturn, 1) := by decide +kernel
theorem dX3_recallInto_9 : decode cX3_recallInto 9 = .ok (.aload_n 1, 1) := by decide +kernel
theorem dX3_recallInto_10 : decode cX3_recallInto 10 = .ok (.aload_n 0, 1) := by decide +kernel
theorem dX3_recallInto_11 : decode cX3_recallInto 11 = .ok (.getfield 11, 3) := by decide +kernel
theorem dX3_recallInto_14 : decode cX3_recallInto 14 = .ok (.aload_n 0, 1) := by decide +kernel
theorem dX3_recallInto_15 : decode cX3_recallInto 15 = .ok (.getfield 18, 3) := by decide +kernel
theorem dX3_recallInto_18 : decode cX3_recallInto 18 = .ok (.aaload, 1) := by decide +kernel
theorem dX3_recallInto_19 : decode cX3_recallInto 19 = .ok (.invokevirtual 22, 3) := by decide +kernel
theorem dX3_recallInto_22 : decode cX3_recallInto 22 = .ok (.aload_n 0, 1) := by decide +kernel
theorem dX3_recallInto_23 : decode cX3_recallInto 23 = .ok (.aload_n 0, 1) := by decide +kernel
theorem dX3_recallInto_24 : decode cX3_recallInto 24 = .ok (.getfield 18, 3) := by decide +kernel
theorem dX3_recallInto_27 : decode cX3_recallInto 27 = .ok (.bipush 8, 2) := by decide +kernel
theorem dX3_recallInto_29 : decode cX3_recallInto 29 = .ok (.iadd, 1) := by decide +kernel
theorem dX3_recallInto_30 : decode cX3_recallInto 30 = .ok (.iconst 1, 1) := by decide +kernel
theorem dX3_recallInto_31 : decode cX3_recallInto 31 = .ok (.isub, 1) := by decide +kernel
theorem dX3_recallInto_32 : decode cX3_recallInto 32 = .ok (.bipush 8, 2) := by decide +kernel
theorem dX3_recallInto_34 : decode cX3_recallInto 34 = .ok (.irem, 1) := by decide +kernel
theorem dX3_recallInto_35 : decode cX3_recallInto 35 = .ok (.putfield 18, 3) := by decide +kernel
theorem dX3_recallInto_38 : decode cX3_recallInto 38 = .ok (.aload_n 0, 1) := by decide +kernel
theorem dX3_recallInto_39 : decode cX3_recallInto 39 = .ok (.dup, 1) := by decide +kernel
theorem dX3_recallInto_40 : decode cX3_recallInto 40 = .ok (.getfield 26, 3) := by decide +kernel
theorem dX3_recallInto_43 : decode cX3_recallInto 43 = .ok (.iconst 1, 1) := by decide +kernel
theorem dX3_recallInto_44 : decode cX3_recallInto 44 = .ok (.isub, 1) := by decide +kernel
theorem dX3_recallInto_45 : decode cX3_recallInto 45 = .ok (.putfield 26, 3) := by decide +kernel
theorem dX3_recallInto_48 : decode cX3_recallInto 48 = .ok (.iconst 1, 1) := by decide +kernel
theorem dX3_recallInto_49 : decode cX3_recallInto 49 = .ok (.ireturn, 1) := by decide +kernel
theorem dX4_init_0 : decode cX4_init 0 = .ok (.aload_n 0, 1) := by decide +kernel
theorem dX4_init_1 : decode cX4_init 1 = .ok (.invokespecial 3, 3) := by decide +kernel
theorem dX4_init_4 : decode cX4_init 4 = .ok (.aload_n 0, 1) := by decide +kernel
theorem dX4_init_5 : decode cX4_init 5 = .ok (.aload_n 1, 1) := by decide +kernel
theorem dX4_init_6 : decode cX4_init 6 = .ok (.putfield 9, 3) := by decide +kernel
theorem dX4_init_9 : decode cX4_init 9 = .ok (.aload_n 0, 1) := by decide +kernel
theorem dX4_init_10 : decode cX4_init 10 = .ok (.new 15, 3) := by decide +kernel
theorem dX4_init_13 : decode cX4_init 13 = .ok (.dup, 1) := by decide +kernel
theorem dX4_init_14 : decode cX4_init 14 = .ok (.invokespecial 17, 3) := by decide +kernel
theorem dX4_init_17 : decode cX4_init 17 = .ok (.putfield 18, 3) := by decide +kernel
theorem dX4_init_20 : decode cX4_init 20 = .ok (.return_, 1) := by decide +kernel
theorem dX4_readAll_0 : decode cX4_readAll 0 = .ok (.aload_n 0, 1) := by decide +kernel
theorem dX4_readAll_1 : decode cX4_readAll 1 = .ok (.getfield 9, 3) := by decide +kernel
theorem dX4_readAll_4 : decode cX4_readAll 4 = .ok (.invokevirtual 22, 3) := by decide +kernel
theorem dX4_readAll_7 : decode cX4_readAll 7 = .ok (.aload_n 0, 1) := by decide +kernel
theorem dX4_readAll_8 : decode cX4_readAll 8 = .ok (.getfield 18, 3) := by decide +kernel
theorem dX4_readAll_11 : decode cX4_readAll 11 = .ok (.invokevirtual 27, 3) := by decide +kernel
theorem dX4_readAll_14 : decode cX4_readAll 14 = .ok (.aload_n 0, 1) := by decide +kernel
theorem dX4_readAll_15 : decode cX4_readAll 15 = .ok (.iconst 0, 1) := by decide +kernel
theorem dX4_readAll_16 : decode cX4_readAll 16 = .ok (.putfield 30, 3) := by decide +kernel
theorem dX4_readAll_19 : decode cX4_readAll 19 = .ok (.aload_n 0, 1) := by decide +kernel
theorem dX4_readAll_20 : decode cX4_readAll 20 = .ok (.iconst 0, 1) := by decide +kernel
theorem dX4_readAll_21 : decode cX4_readAll 21 = .ok (.putfield 34, 3) := by decide +kernel
theorem dX4_readAll_24 : decode cX4_readAll 24 = .ok (.aload_n 0, 1) := by decide +kernel
theorem dX4_readAll_25 : decode cX4_readAll 25 = .ok (.getfield 9, 3) := by decide +kernel
theorem dX4_readAll_28 : decode cX4_readAll 28 = .ok (.getfield 37, 3) := by decide +kernel
theorem dX4_readAll_31 : decode cX4_readAll 31 = .ok (.aload_n 0, 1) := by decide +kernel
theorem dX4_readAll_32 : decode cX4_readAll 32 = .ok (.getfield 34, 3) := by decide +kernel
theorem dX4_readAll_35 : decode cX4_readAll 35 = .ok (.iaload, 1) := by decide +kernel
theorem dX4_readAll_36 : decode cX4_readAll 36 = .ok (.ifCond .eq 34, 3) := by decide +kernel
theorem dX4_readAll_39 : decode cX4_readAll 39 = .ok (.aload_n 0, 1) := by decide +kernel
theorem dX4_readAll_40 : decode cX4_readAll 40 = .ok (.getfield 30, 3) := by decide +kernel
theorem dX4_readAll_43 : decode cX4_readAll 43 = .ok (.bipush 60, 2) := by decide +kernel
theorem dX4_readAll_45 : decode cX4_readAll 45 = .ok (.if_icmp .ge 25, 3) := by decide +kernel
theorem dX4_readAll_48 : decode cX4_readAll 48 = .ok (.aload_n 0, 1) := by decide +kernel
theorem dX4_readAll_49 : decode cX4_readAll 49 = .ok (.invokevirtual 41, 3) := by decide +kernel
theorem dX4_readAll_52 : decode cX4_readAll 52 = .ok (.ifCond .ne 5, 3) := by decide +kernel
theorem dX4_readAll_55 : decode cX4_readAll 55 = .ok (.iconst 0, 1) := by decide +kernel
theorem dX4_readAll_56 : decode cX4_readAll 56 = .ok (.ireturn, 1) := by decide +kernel
theorem dX4_readAll_57 : decode cX4_readAll 57 = .ok (.aload_n 0, 1) := by decide +kernel
theorem dX4_readAll_58 : decode cX4_readAll 58 = .ok (.dup, 1) := by decide +kernel
theorem dX4_readAll_59 : decode cX4_readAll 59 = .ok (.getfield 30, 3) := by decide +kernel
theorem dX4_readAll_62 : decode cX4_readAll 62 = .ok (.iconst 1, 1) := by decide +kernel
theorem dX4_readAll_63 : decode cX4_readAll 63 = .ok (.iadd, 1) := by decide +kernel
theorem dX4_readAll_64 : decode cX4_readAll 64 = .ok (.putfield 30, 3) := by decide +kernel
theorem dX4_readAll_67 : decode cX4_readAll 67 = .ok (.goto (-43), 3) := by decide +kernel
theorem dX4_readAll_70 : decode cX4_readAll 70 = .ok (.iconst 1, 1) := by decide +kernel
theorem dX4_readAll_71 : decode cX4_readAll 71 = .ok (.ireturn, 1) := by decide +kernel
theorem dX4_faultPlace_0 : decode cX4_faultPlace 0 = .ok (.aload_n 0, 1) := by decide +kernel
theorem dX4_faultPlace_1 : decode cX4_faultPlace 1 = .ok (.getfield 9, 3) := by decide +kernel
theorem dX4_faultPlace_4 : decode cX4_faultPlace 4 = .ok (.getfield 45, 3) := by decide +kernel
theorem dX4_faultPlace_7 : decode cX4_faultPlace 7 = .ok (.aload_n 0, 1) := by decide +kernel
theorem dX4_faultPlace_8 : decode cX4_faultPlace 8 = .ok (.getfield 34, 3) := by decide +kernel
theorem dX4_faultPlace_11 : decode cX4_faultPlace 11 = .ok (.iaload, 1) := by decide +kernel
theorem dX4_faultPlace_12 : decode cX4_faultPlace 12 = .ok (.ireturn, 1) := by decide +kernel
theorem dX4_readItem_0 : decode cX4_readItem 0 = .ok (.aload_n 0, 1) := by decide +kernel
theorem dX4_readItem_1 : decode cX4_readItem 1 = .ok (.getfield 9, 3) := by decide +kernel
theorem dX4_readItem_4 : decode cX4_readItem 4 = .ok (.getfield 37, 3) := by decide +kernel
theorem dX4_readItem_7 : decode cX4_readItem 7 = .ok (.aload_n 0, 1) := by decide +kernel
theorem dX4_readItem_8 : decode cX4_readItem 8 = .ok (.getfield 34, 3) := by decide +kernel
theorem dX4_readItem_11 : decode cX4_readItem 11 = .ok (.iaload, 1) := by decide +kernel
theorem dX4_readItem_12 : decode cX4_readItem 12 = .ok (.istore_n 1, 1) := by decide +kernel
theorem dX4_readItem_13 : decode cX4_readItem 13 = .ok (.iload_n 1, 1) := by decide +kernel
theorem dX4_readItem_14 : decode cX4_readItem 14 = .ok (.iconst 1, 1) := by decide +kernel
theorem dX4_readItem_15 : decode cX4_readItem 15 = .ok (.if_icmp .ne 19, 3) := by decide +kernel
theorem dX4_readItem_18 : decode cX4_readItem 18 = .ok (.aload_n 0, 1) := by decide +kernel
theorem dX4_readItem_19 : decode cX4_readItem 19 = .ok (.getfield 18, 3) := by decide +kernel
theorem dX4_readItem_22 : decode cX4_readItem 22 = .ok (.getfield 48, 3) := by decide +kernel
theorem dX4_readItem_25 : decode cX4_readItem 25 = .ok (.iconst 4, 1) := by decide +kernel
theorem dX4_readItem_26 : decode cX4_readItem 26 = .ok (.if_icmp .ge 8, 3) := by decide +kernel
theorem dX4_readItem_29 : decode cX4_readItem 29 = .ok (.aload_n 0, 1) := by decide +kernel
theorem dX4_readItem_30 : decode cX4_readItem 30 = .ok (.invokevirtual 51, 3) := by decide +kernel
theorem dX4_readItem_33 : decode cX4_readItem 33 = .ok (.ireturn, 1) := by decide +kernel
theorem dX4_readItem_34 : decode cX4_readItem 34 = .ok (.iload_n 1, 1) := by decide +kernel
theorem dX4_readItem_35 : decode cX4_readItem 35 = .ok (.iconst 2, 1) := by decide +kernel
theorem dX4_readItem_36 : decode cX4_readItem 36 = .ok (.if_icmp .ne 14, 3) := by decide +kernel
theorem dX4_readItem_39 : decode cX4_readItem 39 = .ok (.aload_n 0, 1) := by decide +kernel
theorem dX4_readItem_40 : decode cX4_readItem 40 = .ok (.invokevirtual 54, 3) := by decide +kernel
theorem dX4_readItem_43 : decode cX4_readItem 43 = .ok (.ifCond .eq 7, 3) := by decide +kernel
theorem dX4_readItem_46 : decode cX4_readItem 46 = .ok (.iconst 1, 1) := by decide +kernel
theorem dX4_readItem_47 : decode cX4_readItem 47 = .ok (.goto 4, 3) := by decide +kernel
theorem dX4_readItem_50 : decode cX4_readItem 50 = .ok (.iconst 0, 1) := by decide +kernel
theorem dX4_readItem_51 : decode cX4_readItem 51 = .ok (.ireturn, 1) := by decide +kernel
theorem dX4_readCask_0 : decode cX4_readCask 0 = .ok (.aload_n 0, 1) := by decide +kernel
theorem dX4_readCask_1 : decode cX4_readCask 1 = .ok (.iconst 1, 1) := by decide +kernel
theorem dX4_readCask_2 : decode cX4_readCask 2 = .ok (.bipush 12, 2) := by decide +kernel
theorem dX4_readCask_4 : decode cX4_readCask 4 = .ok (.invokevirtual 57, 3) := by decide +kernel
theorem dX4_readCask_7 : decode cX4_readCask 7 = .ok (.ifCond .ne 5, 3) := by decide +kernel
theorem dX4_readCask_10 : decode cX4_readCask 10 = .ok (.iconst 0, 1) := by decide +kernel
theorem dX4_readCask_11 : decode cX4_readCask 11 = .ok (.ireturn, 1) := by decide +kernel
theorem dX4_readCask_12 : decode cX4_readCask 12 = .ok (.aload_n 0, 1) := by decide +kernel
theorem dX4_readCask_13 : decode cX4_readCask 13 = .ok (.getfield 9, 3) := by decide +kernel
theorem dX4_readCask_16 : decode cX4_readCask 16 = .ok (.getfield 61, 3) := by decide +kernel
theorem dX4_readCask_19 : decode cX4_readCask 19 = .ok (.aload_n 0, 1) := by decide +kernel
theorem dX4_readCask_20 : decode cX4_readCask 20 = .ok (.getfield 34, 3) := by decide +kernel
theorem dX4_readCask_23 : decode cX4_readCask 23 = .ok (.iaload, 1) := by decide +kernel
theorem dX4_readCask_24 : decode cX4_readCask 24 = .ok (.istore_n 1, 1) := by decide +kernel
theorem dX4_readCask_25 : decode cX4_readCask 25 = .ok (.aload_n 0, 1) := by decide +kernel
theorem dX4_readCask_26 : decode cX4_readCask 26 = .ok (.iconst 1, 1) := by decide +kernel
theorem dX4_readCask_27 : decode cX4_readCask 27 = .ok (.bipush 20, 2) := by decide +kernel
theorem dX4_readCask_29 : decode cX4_readCask 29 = .ok (.invokevirtual 57, 3) := by decide +kernel
theorem dX4_readCask_32 : decode cX4_readCask 32 = .ok (.ifCond .ne 5, 3) := by decide +kernel
theorem dX4_readCask_35 : decode cX4_readCask 35 = .ok (.iconst 0, 1) := by decide +kernel
theorem dX4_readCask_36 : decode cX4_readCask 36 = .ok (.ireturn, 1) := by decide +kernel
theorem dX4_readCask_37 : decode cX4_readCask 37 = .ok (.aload_n 0, 1) := by decide +kernel
theorem dX4_readCask_38 : decode cX4_readCask 38 = .ok (.getfield 9, 3) := by decide +kernel
theorem dX4_readCask_41 : decode cX4_readCask 41 = .ok (.getfield 61, 3) := by decide +kernel
theorem dX4_readCask_44 : decode cX4_readCask 44 = .ok (.aload_n 0, 1) := by decide +kernel
theorem dX4_readCask_45 : decode cX4_readCask 45 = .ok (.getfield 34, 3) := by decide +kernel
theorem dX4_readCask_48 : decode cX4_readCask 48 = .ok (.iaload, 1) := by decide +kernel
theorem dX4_readCask_49 : decode cX4_readCask 49 = .ok (.istore_n 2, 1) := by decide +kernel
theorem dX4_readCask_50 : decode cX4_readCask 50 = .ok (.aload_n 0, 1) := by decide +kernel
theorem dX4_readCask_51 : decode cX4_readCask 51 = .ok (.iload_n 2, 1) := by decide +kernel
theorem dX4_readCask_52 : decode cX4_readCask 52 = .ok (.bipush 20, 2) := by decide +kernel
theorem dX4_readCask_54 : decode cX4_readCask 54 = .ok (.invokevirtual 57, 3) := by decide +kernel
theorem dX4_readCask_57 : decode cX4_readCask 57 = .ok (.ifCond .ne 5, 3) := by decide +kernel
theorem dX4_readCask_60 : decode cX4_readCask 60 = .ok (.iconst 0, 1) := by decide +kernel
theorem dX4_readCask_61 : decode cX4_readCask 61 = .ok (.ireturn, 1) := by decide +kernel
theorem dX4_readCask_62 : decode cX4_readCask 62 = .ok (.aload_n 0, 1) := by decide +kernel
theorem dX4_readCask_63 : decode cX4_readCask 63 = .ok (.getfield 9, 3) := by decide +kernel
theorem dX4_readCask_66 : decode cX4_readCask 66 = .ok (.getfield 61, 3) := by decide +kernel
theorem dX4_readCask_69 : decode cX4_readCask 69 = .ok (.aload_n 0, 1) := by decide +kernel
theorem dX4_readCask_70 : decode cX4_readCask 70 = .ok (.getfield 34, 3) := by decide +kernel
theorem dX4_readCask_73 : decode cX4_readCask 73 = .ok (.iaload, 1) := by decide +kernel
theorem dX4_readCask_74 : decode cX4_readCask 74 = .ok (.istore_n 3, 1) := by decide +kernel
theorem dX4_readCask_75 : decode cX4_readCask 75 = .ok (.aload_n 0, 1) := by decide +kernel
theorem dX4_readCask_76 : decode cX4_readCask 76 = .ok (.invokevirtual 64, 3) := by decide +kernel
theorem dX4_readCask_79 : decode cX4_readCask 79 = .ok (.ifCond .eq 20, 3) := by decide +kernel
theorem dX4_readCask_82 : decode cX4_readCask 82 = .ok (.aload_n 0, 1) := by decide +kernel
theorem dX4_readCask_83 : decode cX4_readCask 83 = .ok (.getfield 18, 3) := by decide +kernel
theorem dX4_readCask_86 : decode cX4_readCask 86 = .ok (.iload_n 1, 1) := by decide +kernel
theorem dX4_readCask_87 : decode cX4_readCask 87 = .ok (.iload_n 2, 1) := by decide +kernel
theorem dX4_readCask_88 : decode cX4_readCask 88 = .ok (.iload_n 3, 1) := by decide +kernel
theorem dX4_readCask_89 : decode cX4_readCask 89 = .ok (.invokevirtual 67, 3) := by decide +kernel
theorem dX4_readCask_92 : decode cX4_readCask 92 = .ok (.ifCond .eq 7, 3) := by decide +kernel
theorem dX4_readCask_95 : decode cX4_readCask 95 = .ok (.iconst 1, 1) := by decide +kernel
theorem dX4_readCask_96 : decode cX4_readCask 96 = .ok (.goto 4, 3) := by decide +kernel
theorem dX4_readCask_99 : decode cX4_readCask 99 = .ok (.iconst 0, 1) := by decide +kernel
theorem dX4_readCask_100 : decode cX4_readCask 100 = .ok (.ireturn, 1) := by decide +kernel
end
section
theorem dX4_readStands_0 : decode cX4_readStands 0 = .ok (.aload_n 0, 1) := by decide +kernel
theorem dX4_readStands_1 : decode cX4_readStands 1 = .ok (.iconst 0, 1) := by decide +kernel
theorem dX4_readStands_2 : decode cX4_readStands 2 = .ok (.aload_n 0, 1) := by decide +kernel
theorem dX4_readStands_3 : decode cX4_readStands 3 = .ok (.getfield 18, 3) := by decide +kernel
theorem dX4_readStands_6 : decode cX4_readStands 6 = .ok (.getfield 48, 3) := by decide +kernel
theorem dX4_readStands_9 : decode cX4_readStands 9 = .ok (.iconst 1, 1) := by decide +kernel
theorem dX4_readStands_10 : decode cX4_readStands 10 = .ok (.isub, 1) := by decide +kernel
theorem dX4_readStands_11 : decode cX4_readStands 11 = .ok (.invokevirtual 57, 3) := by decide +kernel
theorem dX4_readStands_14 : decode cX4_readStands 14 = .ok (.ifCond .ne 5, 3) := by decide +kernel
theorem dX4_readStands_17 : decode cX4_readStands 17 = .ok (.iconst 0, 1) := by decide +kernel
theorem dX4_readStands_18 : decode cX4_readStands 18 = .ok (.ireturn, 1) := by decide +kernel
theorem dX4_readStands_19 : decode cX4_readStands 19 = .ok (.aload_n 0, 1) := by decide +kernel
theorem dX4_readStands_20 : decode cX4_readStands 20 = .ok (.getfield 9, 3) := by decide +kernel
theorem dX4_readStands_23 : decode cX4_readStands 23 = .ok (.getfield 61, 3) := by decide +kernel
theorem dX4_readStands_26 : decode cX4_readStands 26 = .ok (.aload_n 0, 1) := by decide +kernel
theorem dX4_readStands_27 : decode cX4_readStands 27 = .ok (.getfield 34, 3) := by decide +kernel
theorem dX4_readStands_30 : decode cX4_readStands 30 = .ok (.iaload, 1) := by decide +kernel
theorem dX4_readStands_31 : decode cX4_readStands 31 = .ok (.istore_n 1, 1) := by decide +kernel
theorem dX4_readStands_32 : decode cX4_readStands 32 = .ok (.aload_n 0, 1) := by decide +kernel
theorem dX4_readStands_33 : decode cX4_readStands 33 = .ok (.getfield 18, 3) := by decide +kernel
theorem dX4_readStands_36 : decode cX4_readStands 36 = .ok (.iload_n 1, 1) := by decide +kernel
theorem dX4_readStands_37 : decode cX4_readStands 37 = .ok (.invokevirtual 71, 3) := by decide +kernel
theorem dX4_readStands_40 : decode cX4_readStands 40 = .ok (.ifCond .ne 5, 3) := by decide +kernel
theorem dX4_readStands_43 : decode cX4_readStands 43 = .ok (.iconst 0, 1) := by decide +kernel
theorem dX4_readStands_44 : decode cX4_readStands 44 = .ok (.ireturn, 1) := by decide +kernel
theorem dX4_readStands_45 : decode cX4_readStands 45 = .ok (.aload_n 0, 1) := by decide +kernel
theorem dX4_readStands_46 : decode cX4_readStands 46 = .ok (.getfield 18, 3) := by decide +kernel
theorem dX4_readStands_49 : decode cX4_readStands 49 = .ok (.getfield 75, 3) := by decide +kernel
theorem dX4_readStands_52 : decode cX4_readStands 52 = .ok (.iload_n 1, 1) := by decide +kernel
theorem dX4_readStands_53 : decode cX4_readStands 53 = .ok (.aaload, 1) := by decide +kernel
theorem dX4_readStands_54 : decode cX4_readStands 54 = .ok (.iconst 0, 1) := by decide +kernel
theorem dX4_readStands_55 : decode cX4_readStands 55 = .ok (.putfield 79, 3) := by decide +kernel
theorem dX4_readStands_58 : decode cX4_readStands 58 = .ok (.aload_n 0, 1) := by decide +kernel
theorem dX4_readStands_59 : decode cX4_readStands 59 = .ok (.invokevirtual 64, 3) := by decide +kernel
theorem dX4_readStands_62 : decode cX4_readStands 62 = .ok (.ireturn, 1) := by decide +kernel
theorem dX4_readNumber_0 : decode cX4_readNumber 0 = .ok (.aload_n 0, 1) := by decide +kernel
theorem dX4_readNumber_1 : decode cX4_readNumber 1 = .ok (.invokevirtual 85, 3) := by decide +kernel
theorem dX4_readNumber_4 : decode cX4_readNumber 4 = .ok (.aload_n 0, 1) := by decide +kernel
theorem dX4_readNumber_5 : decode cX4_readNumber 5 = .ok (.getfield 9, 3) := by decide +kernel
theorem dX4_readNumber_8 : decode cX4_readNumber 8 = .ok (.getfield 61, 3) := by decide +kernel
theorem dX4_readNumber_11 : decode cX4_readNumber 11 = .ok (.aload_n 0, 1) := by decide +kernel
theorem dX4_readNumber_12 : decode cX4_readNumber 12 = .ok (.getfield 34, 3) := by decide +kernel
theorem dX4_readNumber_15 : decode cX4_readNumber 15 = .ok (.iaload, 1) := by decide +kernel
theorem dX4_readNumber_16 : decode cX4_readNumber 16 = .ok (.istore_n 3, 1) := by decide +kernel
theorem dX4_readNumber_17 : decode cX4_readNumber 17 = .ok (.aload_n 0, 1) := by decide +kernel
theorem dX4_readNumber_18 : decode cX4_readNumber 18 = .ok (.getfield 9, 3) := by decide +kernel
theorem dX4_readNumber_21 : decode cX4_readNumber 21 = .ok (.getfield 37, 3) := by decide +kernel
theorem dX4_readNumber_24 : decode cX4_readNumber 24 = .ok (.aload_n 0, 1) := by decide +kernel
theorem dX4_readNumber_25 : decode cX4_readNumber 25 = .ok (.getfield 34, 3) := by decide +kernel
theorem dX4_readNumber_28 : decode cX4_readNumber 28 = .ok (.iaload, 1) := by decide +kernel
theorem dX4_readNumber_29 : decode cX4_readNumber 29 = .ok (.iconst 3, 1) := by decide +kernel
theorem dX4_readNumber_30 : decode cX4_readNumber 30 = .ok (.if_icmp .ne 17, 3) := by decide +kernel
theorem dX4_readNumber_33 : decode cX4_readNumber 33 = .ok (.iload_n 3, 1) := by decide +kernel
theorem dX4_readNumber_34 : decode cX4_readNumber 34 = .ok (.iload_n 1, 1) := by decide +kernel
theorem dX4_readNumber_35 : decode cX4_readNumber 35 = .ok (.if_icmp .lt 12, 3) := by decide +kernel
theorem dX4_readNumber_38 : decode cX4_readNumber 38 = .ok (.iload_n 3, 1) := by decide +kernel
theorem dX4_readNumber_39 : decode cX4_readNumber 39 = .ok (.iload_n 2, 1) := by decide +kernel
theorem dX4_readNumber_40 : decode cX4_readNumber 40 = .ok (.if_icmp .gt 7, 3) := by decide +kernel
theorem dX4_readNumber_43 : decode cX4_readNumber 43 = .ok (.iconst 1, 1) := by decide +kernel
theorem dX4_readNumber_44 : decode cX4_readNumber 44 = .ok (.goto 4, 3) := by decide +kernel
theorem dX4_readNumber_47 : decode cX4_readNumber 47 = .ok (.iconst 0, 1) := by decide +kernel
theorem dX4_readNumber_48 : decode cX4_readNumber 48 = .ok (.ireturn, 1) := by decide +kernel
theorem dX4_readItemEnd_0 : decode cX4_readItemEnd 0 = .ok (.aload_n 0, 1) := by decide +kernel
theorem dX4_readItemEnd_1 : decode cX4_readItemEnd 1 = .ok (.invokevirtual 85, 3) := by decide +kernel
theorem dX4_readItemEnd_4 : decode cX4_readItemEnd 4 = .ok (.aload_n 0, 1) := by decide +kernel
theorem dX4_readItemEnd_5 : decode cX4_readItemEnd 5 = .ok (.getfield 9, 3) := by decide +kernel
theorem dX4_readItemEnd_8 : decode cX4_readItemEnd 8 = .ok (.getfield 37, 3) := by decide +kernel
theorem dX4_readItemEnd_11 : decode cX4_readItemEnd 11 = .ok (.aload_n 0, 1) := by decide +kernel
theorem dX4_readItemEnd_12 : decode cX4_readItemEnd 12 = .ok (.getfield 34, 3) := by decide +kernel
theorem dX4_readItemEnd_15 : decode cX4_readItemEnd 15 = .ok (.iaload, 1) := by decide +kernel
theorem dX4_readItemEnd_16 : decode cX4_readItemEnd 16 = .ok (.iconst 4, 1) := by decide +kernel
theorem dX4_readItemEnd_17 : decode cX4_readItemEnd 17 = .ok (.if_icmp .eq 5, 3) := by decide +kernel
theorem dX4_readItemEnd_20 : decode cX4_readItemEnd 20 = .ok (.iconst 0, 1) := by decide +kernel
theorem dX4_readItemEnd_21 : decode cX4_readItemEnd 21 = .ok (.ireturn, 1) := by decide +kernel
theorem dX4_readItemEnd_22 : decode cX4_readItemEnd 22 = .ok (.aload_n 0, 1) := by decide +kernel
theorem dX4_readItemEnd_23 : decode cX4_readItemEnd 23 = .ok (.invokevirtual 85, 3) := by decide +kernel
theorem dX4_readItemEnd_26 : decode cX4_readItemEnd 26 = .ok (.iconst 1, 1) := by decide +kernel
theorem dX4_readItemEnd_27 : decode cX4_readItemEnd 27 = .ok (.ireturn, 1) := by decide +kernel
theorem dX4_step_0 : decode cX4_step 0 = .ok (.aload_n 0, 1) := by decide +kernel
theorem dX4_step_1 : decode cX4_step 1 = .ok (.getfield 9, 3) := by decide +kernel
theorem dX4_step_4 : decode cX4_step 4 = .ok (.getfield 37, 3) := by decide +kernel
theorem dX4_step_7 : decode cX4_step 7 = .ok (.aload_n 0, 1) := by decide +kernel
theorem dX4_step_8 : decode cX4_step 8 = .ok (.getfield 34, 3) := by decide +kernel
theorem dX4_step_11 : decode cX4_step 11 = .ok (.iaload, 1) := by decide +kernel
theorem dX4_step_12 : decode cX4_step 12 = .ok (.ifCond .eq 22, 3) := by decide +kernel
theorem dX4_step_15 : decode cX4_step 15 = .ok (.aload_n 0, 1) := by decide +kernel
theorem dX4_step_16 : decode cX4_step 16 = .ok (.getfield 34, 3) := by decide +kernel
theorem dX4_step_19 : decode cX4_step 19 = .ok (.bipush 60, 2) := by decide +kernel
theorem dX4_step_21 : decode cX4_step 21 = .ok (.if_icmp .ge 13, 3) := by decide +kernel
theorem dX4_step_24 : decode cX4_step 24 = .ok (.aload_n 0, 1) := by decide +kernel
theorem dX4_step_25 : decode cX4_step 25 = .ok (.dup, 1) := by decide +kernel
theorem dX4_step_26 : decode cX4_step 26 = .ok (.getfield 34, 3) := by decide +kernel
theorem dX4_step_29 : decode cX4_step 29 = .ok (.iconst 1, 1) := by decide +kernel
theorem dX4_step_30 : decode cX4_step 30 = .ok (.iadd, 1) := by decide +kernel
theorem dX4_step_31 : decode cX4_step 31 = .ok (.putfield 34, 3) := by decide +kernel
theorem dX4_step_34 : decode cX4_step 34 = .ok (.return_, 1) := by decide +kernel
theorem dX5_init_0 : decode cX5_init 0 = .ok (.aload_n 0, 1) := by decide +kernel
theorem dX5_init_1 : decode cX5_init 1 = .ok (.invokespecial 3, 3) := by decide +kernel
theorem dX5_init_4 : decode cX5_init 4 = .ok (.return_, 1) := by decide +kernel
theorem dX5_findFairest_0 : decode cX5_findFairest 0 = .ok (.aload_n 0, 1) := by decide +kernel
theorem dX5_findFairest_1 : decode cX5_findFairest 1 = .ok (.iload_n 2, 1) := by decide +kernel
theorem dX5_findFairest_2 : decode cX5_findFairest 2 = .ok (.iconst 1, 1) := by decide +kernel
theorem dX5_findFairest_3 : decode cX5_findFairest 3 = .ok (.iadd, 1) := by decide +kernel
theorem dX5_findFairest_4 : decode cX5_findFairest 4 = .ok (.putfield 9, 3) := by decide +kernel
theorem dX5_findFairest_7 : decode cX5_findFairest 7 = .ok (.aload_n 1, 1) := by decide +kernel
theorem dX5_findFairest_8 : decode cX5_findFairest 8 = .ok (.iload_n 2, 1) := by decide +kernel
theorem dX5_findFairest_9 : decode cX5_findFairest 9 = .ok (.invokevirtual 15, 3) := by decide +kernel
theorem dX5_findFairest_12 : decode cX5_findFairest 12 = .ok (.bipush 40, 2) := by decide +kernel
theorem dX5_findFairest_14 : decode cX5_findFairest 14 = .ok (.invokestatic 21, 3) := by decide +kernel
theorem dX5_findFairest_17 : decode cX5_findFairest 17 = .ok (.istore 4, 2) := by decide +kernel
theorem dX5_findFairest_19 : decode cX5_findFairest 19 = .ok (.iconst 0, 1) := by decide +kernel
theorem dX5_findFairest_20 : decode cX5_findFairest 20 = .ok (.istore 5, 2) := by decide +kernel
theorem dX5_findFairest_22 : decode cX5_findFairest 22 = .ok (.iload 5, 2) := by decide +kernel
theorem dX5_findFairest_24 : decode cX5_findFairest 24 = .ok (.iload 4, 2) := by decide +kernel
theorem dX5_findFairest_26 : decode cX5_findFairest 26 = .ok (.if_icmp .gt 45, 3) := by decide +kernel
theorem dX5_findFairest_29 : decode cX5_findFairest 29 = .ok (.iload_n 3, 1) := by decide +kernel
theorem dX5_findFairest_30 : decode cX5_findFairest 30 = .ok (.iconst 2, 1) := by decide +kernel
theorem dX5_findFairest_31 : decode cX5_findFairest 31 = .ok (.if_icmp .ne 8, 3) := by decide +kernel
theorem dX5_findFairest_34 : decode cX5_findFairest 34 = .ok (.iload 5, 2) := by decide +kernel
theorem dX5_findFairest_36 : decode cX5_findFairest 36 = .ok (.goto 4, 3) := by decide +kernel
theorem dX5_findFairest_39 : decode cX5_findFairest 39 = .ok (.iconst 0, 1) := by decide +kernel
theorem dX5_findFairest_40 : decode cX5_findFairest 40 = .ok (.istore 6, 2) := by decide +kernel
theorem dX5_findFairest_42 : decode cX5_findFairest 42 = .ok (.iload 6, 2) := by decide +kernel
theorem dX5_findFairest_44 : decode cX5_findFairest 44 = .ok (.iload 5, 2) := by decide +kernel
theorem dX5_findFairest_46 : decode cX5_findFairest 46 = .ok (.if_icmp .gt 19, 3) := by decide +kernel
theorem dX5_findFairest_49 : decode cX5_findFairest 49 = .ok (.aload_n 0, 1) := by decide +kernel
theorem dX5_findFairest_50 : decode cX5_findFairest 50 = .ok (.aload_n 1, 1) := by decide +kernel
theorem dX5_findFairest_51 : decode cX5_findFairest 51 = .ok (.iload_n 2, 1) := by decide +kernel
theorem dX5_findFairest_52 : decode cX5_findFairest 52 = .ok (.iload 5, 2) := by decide +kernel
theorem dX5_findFairest_54 : decode cX5_findFairest 54 = .ok (.iload 6, 2) := by decide +kernel
theorem dX5_findFairest_56 : decode cX5_findFairest 56 = .ok (.invokevirtual 27, 3) := by decide +kernel
theorem dX5_findFairest_59 : decode cX5_findFairest 59 = .ok (.iinc 6 1, 3) := by decide +kernel
theorem dX5_findFairest_62 : decode cX5_findFairest 62 = .ok (.goto (-20), 3) := by decide +kernel
theorem dX5_findFairest_65 : decode cX5_findFairest 65 = .ok (.iinc 5 1, 3) := by decide +kernel
theorem dX5_findFairest_68 : decode cX5_findFairest 68 = .ok (.goto (-46), 3) := by decide +kernel
theorem dX5_findFairest_71 : decode cX5_findFairest 71 = .ok (.return_, 1) := by decide +kernel
theorem dX5_weigh_0 : decode cX5_weigh 0 = .ok (.aload_n 1, 1) := by decide +kernel
theorem dX5_weigh_1 : decode cX5_weigh 1 = .ok (.iload_n 3, 1) := by decide +kernel
theorem dX5_weigh_2 : decode cX5_weigh 2 = .ok (.invokevirtual 31, 3) := by decide +kernel
theorem dX5_weigh_5 : decode cX5_weigh 5 = .ok (.iload_n 2, 1) := by decide +kernel
theorem dX5_weigh_6 : decode cX5_weigh 6 = .ok (.invokestatic 21, 3) := by decide +kernel
theorem dX5_weigh_9 : decode cX5_weigh 9 = .ok (.istore 5, 2) := by decide +kernel
theorem dX5_weigh_11 : decode cX5_weigh 11 = .ok (.aload_n 1, 1) := by decide +kernel
theorem dX5_weigh_12 : decode cX5_weigh 12 = .ok (.iload 4, 2) := by decide +kernel
theorem dX5_weigh_14 : decode cX5_weigh 14 = .ok (.invokevirtual 31, 3) := by decide +kernel
theorem dX5_weigh_17 : decode cX5_weigh 17 = .ok (.iload_n 2, 1) := by decide +kernel
theorem dX5_weigh_18 : decode cX5_weigh 18 = .ok (.invokestatic 21, 3) := by decide +kernel
theorem dX5_weigh_21 : decode cX5_weigh 21 = .ok (.istore 6, 2) := by decide +kernel
theorem dX5_weigh_23 : decode cX5_weigh 23 = .ok (.iload 5, 2) := by decide +kernel
theorem dX5_weigh_25 : decode cX5_weigh 25 = .ok (.iload 6, 2) := by decide +kernel
theorem dX5_weigh_27 : decode cX5_weigh 27 = .ok (.isub, 1) := by decide +kernel
theorem dX5_weigh_28 : decode cX5_weigh 28 = .ok (.istore 7, 2) := by decide +kernel
theorem dX5_weigh_30 : decode cX5_weigh 30 = .ok (.iload_n 2, 1) := by decide +kernel
theorem dX5_weigh_31 : decode cX5_weigh 31 = .ok (.iload 5, 2) := by decide +kernel
theorem dX5_weigh_33 : decode cX5_weigh 33 = .ok (.isub, 1) := by decide +kernel
theorem dX5_weigh_34 : decode cX5_weigh 34 = .ok (.iload 6, 2) := by decide +kernel
theorem dX5_weigh_36 : decode cX5_weigh 36 = .ok (.invokestatic 34, 3) := by decide +kernel
theorem dX5_weigh_39 : decode cX5_weigh 39 = .ok (.iload 7, 2) := by decide +kernel
theorem dX5_weigh_41 : decode cX5_weigh 41 = .ok (.invokestatic 34, 3) := by decide +kernel
theorem dX5_weigh_44 : decode cX5_weigh 44 = .ok (.istore 8, 2) := by decide +kernel
theorem dX5_weigh_46 : decode cX5_weigh 46 = .ok (.iload 8, 2) := by decide +kernel
theorem dX5_weigh_48 : decode cX5_weigh 48 = .ok (.aload_n 0, 1) := by decide +kernel
theorem dX5_weigh_49 : decode cX5_weigh 49 = .ok (.getfield 9, 3) := by decide +kernel
theorem dX5_weigh_52 : decode cX5_weigh 52 = .ok (.if_icmp .ge 34, 3) := by decide +kernel
theorem dX5_weigh_55 : decode cX5_weigh 55 = .ok (.aload_n 0, 1) := by decide +kernel
theorem dX5_weigh_56 : decode cX5_weigh 56 = .ok (.iload 8, 2) := by decide +kernel
theorem dX5_weigh_58 : decode cX5_weigh 58 = .ok (.putfield 9, 3) := by decide +kernel
theorem dX5_weigh_61 : decode cX5_weigh 61 = .ok (.aload_n 0, 1) := by decide +kernel
theorem dX5_weigh_62 : decode cX5_weigh 62 = .ok (.iload_n 3, 1) := by decide +kernel
theorem dX5_weigh_63 : decode cX5_weigh 63 = .ok (.putfield 37, 3) := by decide +kernel
theorem dX5_weigh_66 : decode cX5_weigh 66 = .ok (.aload_n 0, 1) := by decide +kernel
theorem dX5_weigh_67 : decode cX5_weigh 67 = .ok (.iload 4, 2) := by decide +kernel
theorem dX5_weigh_69 : decode cX5_weigh 69 = .ok (.putfield 40, 3) := by decide +kernel
theorem dX5_weigh_72 : decode cX5_weigh 72 = .ok (.aload_n 0, 1) := by decide +kernel
theorem dX5_weigh_73 : decode cX5_weigh 73 = .ok (.iload_n 2, 1) := by decide +kernel
theorem dX5_weigh_74 : decode cX5_weigh 74 = .ok (.iload 5, 2) := by decide +kernel
theorem dX5_weigh_76 : decode cX5_weigh 76 = .ok (.isub, 1) := by decide +kernel
theorem dX5_weigh_77 : decode cX5_weigh 77 = .ok (.putfield 43, 3) := by decide +kernel
theorem dX5_weigh_80 : decode cX5_weigh 80 = .ok (.aload_n 0, 1) := by decide +kernel
theorem dX5_weigh_81 : decode cX5_weigh 81 = .ok (.iload 6, 2) := by decide +kernel
theorem dX5_weigh_83 : decode cX5_weigh 83 = .ok (.putfield 46, 3) := by decide +kernel
theorem dX5_weigh_86 : decode cX5_weigh 86 = .ok (.return_, 1) := by decide +kernel
theorem dX6_init_0 : decode cX6_init 0 = .ok (.aload_n 0, 1) := by decide +kernel
theorem dX6_init_1 : decode cX6_init 1 = .ok (.invokespecial 3, 3) := by decide +kernel
theorem dX6_init_4 : decode cX6_init 4 = .ok (.aload_n 0, 1) := by decide +kernel
theorem dX6_init_5 : decode cX6_init 5 = .ok (.bipush 6, 2) := by decide +kernel
theorem dX6_init_7 : decode cX6_init 7 = .ok (.newarray .int, 2) := by decide +kernel
theorem dX6_init_9 : decode cX6_init 9 = .ok (.putfield 9, 3) := by decide +kernel
theorem dX6_init_12 : decode cX6_init 12 = .ok (.aload_n 0, 1) := by decide +kernel
theorem dX6_init_13 : decode cX6_init 13 = .ok (.bipush 6, 2) := by decide +kernel
theorem dX6_init_15 : decode cX6_init 15 = .ok (.newarray .int, 2) := by decide +kernel
theorem dX6_init_17 : decode cX6_init 17 = .ok (.putfield 15, 3) := by decide +kernel
theorem dX6_init_20 : decode cX6_init 20 = .ok (.return_, 1) := by decide +kernel
theorem dX6_add_0 : decode cX6_add 0 = .ok (.aload_n 0, 1) := by decide +kernel
theorem dX6_add_1 : decode cX6_add 1 = .ok (.getfield 18, 3) := by decide +kernel
theorem dX6_add_4 : decode cX6_add 4 = .ok (.bipush 6, 2) := by decide +kernel
theorem dX6_add_6 : decode cX6_add 6 = .ok (.if_icmp .lt 5, 3) := by decide +kernel
theorem dX6_add_9 : decode cX6_add 9 = .ok (.iconst 0, 1) := by decide +kernel
theorem dX6_add_10 : decode cX6_add 10 = .ok (.ireturn, 1) := by decide +kernel
theorem dX6_add_11 : decode cX6_add 11 = .ok (.aload_n 0, 1) := by decide +kernel
theorem dX6_add_12 : decode cX6_add 12 = .ok (.getfield 9, 3) := by decide +kernel
theorem dX6_add_15 : decode cX6_add 15 = .ok (.aload_n 0, 1) := by decide +kernel
theorem dX6_add_16 : decode cX6_add 16 = .ok (.getfield 18, 3) := by decide +kernel
theorem dX6_add_19 : decode cX6_add 19 = .ok (.iload_n 1, 1) := by decide +kernel
theorem dX6_add_20 : decode cX6_add 20 = .ok (.iastore, 1) := by decide +kernel
theorem dX6_add_21 : decode cX6_add 21 = .ok (.aload_n 0, 1) := by decide +kernel
theorem dX6_add_22 : decode cX6_add 22 = .ok (.getfield 15, 3) := by decide +kernel
theorem dX6_add_25 : decode cX6_add 25 = .ok (.aload_n 0, 1) := by decide +kernel
theorem dX6_add_26 : decode cX6_add 26 = .ok (.getfield 18, 3) := by decide +kernel
theorem dX6_add_29 : decode cX6_add 29 = .ok (.iload_n 2, 1) := by decide +kernel
theorem dX6_add_30 : decode cX6_add 30 = .ok (.iastore, 1) := by decide +kernel
theorem dX6_add_31 : decode cX6_add 31 = .ok (.aload_n 0, 1) := by decide +kernel
theorem dX6_add_32 : decode cX6_add 32 = .ok (.dup, 1) := by decide +kernel
theorem dX6_add_33 : decode cX6_add 33 = .ok (.getfield 18, 3) := by decide +kernel
theorem dX6_add_36 : decode cX6_add 36 = .ok (.iconst 1, 1) := by decide +kernel
theorem dX6_add_37 : decode cX6_add 37 = .ok (.iadd, 1) := by decide +kernel
theorem dX6_add_38 : decode cX6_add 38 = .ok (.putfield 18, 3) := by decide +kernel
theorem dX6_add_41 : decode cX6_add 41 = .ok (.iconst 1, 1) := by decide +kernel
theorem dX6_add_42 : decode cX6_add 42 = .ok (.ireturn, 1) := by decide +kernel
theorem dX6_fits_0 : decode cX6_fits 0 = .ok (.iconst 0, 1) := by decide +kernel
theorem dX6_fits_1 : decode cX6_fits 1 = .ok (.istore_n 2, 1) := by decide +kernel
theorem dX6_fits_2 : decode cX6_fits 2 = .ok (.iload_n 2, 1) := by decide +kernel
theorem dX6_fits_3 : decode cX6_fits 3 = .ok (.aload_n 0, 1) := by decide +kernel
theorem dX6_fits_4 : decode cX6_fits 4 = .ok (.getfield 18, 3) := by decide +kernel
theorem dX6_fits_7 : decode cX6_fits 7 = .ok (.if_icmp .ge 36, 3) := by decide +kernel
theorem dX6_fits_10 : decode cX6_fits 10 = .ok (.iload_n 2, 1) := by decide +kernel
theorem dX6_fits_11 : decode cX6_fits 11 = .ok (.bipush 6, 2) := by decide +kernel
theorem dX6_fits_13 : decode cX6_fits 13 = .ok (.if_icmp .ge 30, 3) := by decide +kernel
theorem dX6_fits_16 : decode cX6_fits 16 = .ok (.aload_n 1, 1) := by decide +kernel
theorem dX6_fits_17 : decode cX6_fits 17 = .ok (.aload_n 0, 1) := by decide +kernel
theorem dX6_fits_18 : decode cX6_fits 18 = .ok (.getfield 9, 3) := by decide +kernel
theorem dX6_fits_21 : decode cX6_fits 21 = .ok (.iload_n 2, 1) := by decide +kernel
theorem dX6_fits_22 : decode cX6_fits 22 = .ok (.iaload, 1) := by decide +kernel
theorem dX6_fits_23 : decode cX6_fits 23 = .ok (.invokevirtual 22, 3) := by decide +kernel
theorem dX6_fits_26 : decode cX6_fits 26 = .ok (.aload_n 0, 1) := by decide +kernel
theorem dX6_fits_27 : decode cX6_fits 27 = .ok (.getfield 15, 3) := by decide +kernel
theorem dX6_fits_30 : decode cX6_fits 30 = .ok (.iload_n 2, 1) := by decide +kernel
theorem dX6_fits_31 : decode cX6_fits 31 = .ok (.iaload, 1) := by decide +kernel
theorem dX6_fits_32 : decode cX6_fits 32 = .ok (.if_icmp .eq 5, 3) := by decide +kernel
theorem dX6_fits_35 : decode cX6_fits 35 = .ok (.iconst 0, 1) := by decide +kernel
theorem dX6_fits_36 : decode cX6_fits 36 = .ok (.ireturn, 1) := by decide +kernel
theorem dX6_fits_37 : decode cX6_fits 37 = .ok (.iinc 2 1, 3) := by decide +kernel
theorem dX6_fits_40 : decode cX6_fits 40 = .ok (.goto (-38), 3) := by decide +kernel
theorem dX6_fits_43 : decode cX6_fits 43 = .ok (.iconst 1, 1) := by decide +kernel
theorem dX6_fits_44 : decode cX6_fits 44 = .ok (.ireturn, 1) := by decide +kernel
theorem dX7_init_0 : decode cX7_init 0 = .ok (.aload_n 0, 1) := by decide +kernel
theorem dX7_init_1 : decode cX7_init 1 = .ok (.invokespecial 3, 3) := by decide +kernel
theorem dX7_init_4 : decode cX7_init 4 = .ok (.aload_n 0, 1) := by decide +kernel
theorem dX7_init_5 : decode cX7_init 5 = .ok (.bipush 60, 2) := by decide +kernel
theorem dX7_init_7 : decode cX7_init 7 = .ok (.newarray .int, 2) := by decide +kernel
theorem dX7_init_9 : decode cX7_init 9 = .ok (.putfield 9, 3) := by decide +kernel
theorem dX7_init_12 : decode cX7_init 12 = .ok (.aload_n 0, 1) := by decide +kernel
theorem dX7_init_13 : decode cX7_init 13 = .ok (.bipush 61, 2) := by decide +kernel
theorem dX7_init_15 : decode cX7_init 15 = .ok (.newarray .int, 2) := by decide +kernel
theorem dX7_init_17 : decode cX7_init 17 = .ok (.putfield 15, 3) := by decide +kernel
theorem dX7_init_20 : decode cX7_init 20 = .ok (.aload_n 0, 1) := by decide +kernel
theorem dX7_init_21 : decode cX7_init 21 = .ok (.bipush 61, 2) := by decide +kernel
theorem dX7_init_23 : decode cX7_init 23 = .ok (.newarray .int, 2) := by decide +kernel
theorem dX7_init_25 : decode cX7_init 25 = .ok (.putfield 18, 3) := by decide +kernel
theorem dX7_init_28 : decode cX7_init 28 = .ok (.aload_n 0, 1) := by decide +kernel
theorem dX7_init_29 : decode cX7_init 29 = .ok (.bipush 61, 2) := by decide +kernel
theorem dX7_init_31 : decode cX7_init 31 = .ok (.newarray .int, 2) := by decide +kernel
theorem dX7_init_33 : decode cX7_init 33 = .ok (.putfield 21, 3) := by decide +kernel
theorem dX7_init_36 : decode cX7_init 36 = .ok (.return_, 1) := by decide +kernel
theorem dX7_add_0 : decode cX7_add 0 = .ok (.aload_n 0, 1) := by decide +kernel
theorem dX7_add_1 : decode cX7_add 1 = .ok (.getfield 24, 3) := by decide +kernel
theorem dX7_add_4 : decode cX7_add 4 = .ok (.bipush 60, 2) := by decide +kernel
theorem dX7_add_6 : decode cX7_add 6 = .ok (.if_icmp .lt 5, 3) := by decide +kernel
theorem dX7_add_9 : decode cX7_add 9 = .ok (.iconst 0, 1) := by decide +kernel
theorem dX7_add_10 : decode cX7_add 10 = .ok (.ireturn, 1) := by decide +kernel
theorem dX7_add_11 : decode cX7_add 11 = .ok (.aload_n 0, 1) := by decide +kernel
theorem dX7_add_12 : decode cX7_add 12 = .ok (.getfield 9, 3) := by decide +kernel
theorem dX7_add_15 : decode cX7_add 15 = .ok (.aload_n 0, 1) := by decide +kernel
theorem dX7_add_16 : decode cX7_add 16 = .ok (.getfield 24, 3) := by decide +kernel
theorem dX7_add_19 : decode cX7_add 19 = .ok (.iload_n 1, 1) := by decide +kernel
theorem dX7_add_20 : decode cX7_add 20 = .ok (.iastore, 1) := by decide +kernel
theorem dX7_add_21 : decode cX7_add 21 = .ok (.aload_n 0, 1) := by decide +kernel
theorem dX7_add_22 : decode cX7_add 22 = .ok (.dup, 1) := by decide +kernel
theorem dX7_add_23 : decode cX7_add 23 = .ok (.getfield 24, 3) := by decide +kernel
theorem dX7_add_26 : decode cX7_add 26 = .ok (.iconst 1, 1) := by decide +kernel
theorem dX7_add_27 : decode cX7_add 27 = .ok (.iadd, 1) := by decide +kernel
theorem dX7_add_28 : decode cX7_add 28 = .ok (.putfield 24, 3) := by decide +kernel
theorem dX7_add_31 : decode cX7_add 31 = .ok (.iconst 1, 1) := by decide +kernel
theorem dX7_add_32 : decode cX7_add 32 = .ok (.ireturn, 1) := by decide +kernel
theorem dX7_split_0 : decode cX7_split 0 = .ok (.iconst 0, 1) := by decide +kernel
theorem dX7_split_1 : decode cX7_split 1 = .ok (.istore_n 1, 1) := by decide +kernel
theorem dX7_split_2 : decode cX7_split 2 = .ok (.iconst 0, 1) := by decide +kernel
theorem dX7_split_3 : decode cX7_split 3 = .ok (.istore_n 2, 1) := by decide +kernel
theorem dX7_split_4 : decode cX7_split 4 = .ok (.iload_n 2, 1) := by decide +kernel
theorem dX7_split_5 : decode cX7_split 5 = .ok (.aload_n 0, 1) := by decide +kernel
theorem dX7_split_6 : decode cX7_split 6 = .ok (.getfield 24, 3) := by decide +kernel
theorem dX7_split_9 : decode cX7_split 9 = .ok (.if_icmp .ge 44, 3) := by decide +kernel
theorem dX7_split_12 : decode cX7_split 12 = .ok (.aload_n 0, 1) := by decide +kernel
theorem dX7_split_13 : decode cX7_split 13 = .ok (.getfield 9, 3) := by decide +kernel
theorem dX7_split_16 : decode cX7_split 16 = .ok (.iload_n 2, 1) := by decide +kernel
theorem dX7_split_17 : decode cX7_split 17 = .ok (.iaload, 1) := by decide +kernel
theorem dX7_split_18 : decode cX7_split 18 = .ok (.bipush 32, 2) := by decide +kernel
theorem dX7_split_20 : decode cX7_split 20 = .ok (.if_icmp .eq 27, 3) := by decide +kernel
theorem dX7_split_23 : decode cX7_split 23 = .ok (.aload_n 0, 1) := by decide +kernel
theorem dX7_split_24 : decode cX7_split 24 = .ok (.iload_n 2, 1) := by decide +kernel
theorem dX7_split_25 : decode cX7_split 25 = .ok (.invokevirtual 28, 3) := by decide +kernel
theorem dX7_split_28 : decode cX7_split 28 = .ok (.ifCond .ne 19, 3) := by decide +kernel
theorem dX7_split_31 : decode cX7_split 31 = .ok (.aload_n 0, 1) := by decide +kernel
theorem dX7_split_32 : decode cX7_split 32 = .ok (.getfield 18, 3) := by decide +kernel
theorem dX7_split_35 : decode cX7_split 35 = .ok (.iload_n 1, 1) := by decide +kernel
theorem dX7_split_36 : decode cX7_split 36 = .ok (.iload_n 2, 1) := by decide +kernel
theorem dX7_split_37 : decode cX7_split 37 = .ok (.iastore, 1) := by decide +kernel
theorem dX7_split_38 : decode cX7_split 38 = .ok (.aload_n 0, 1) := by decide +kernel
theorem dX7_split_39 : decode cX7_split 39 = .ok (.iload_n 1, 1) := by decide +kernel
theorem dX7_split_40 : decode cX7_split 40 = .ok (.iload_n 2, 1) := by decide +kernel
theorem dX7_split_41 : decode cX7_split 41 = .ok (.invokevirtual 32, 3) := by decide +kernel
theorem dX7_split_44 : decode cX7_split 44 = .ok (.iinc 1 1, 3) := by decide +kernel
theorem dX7_split_47 : decode cX7_split 47 = .ok (.iinc 2 1, 3) := by decide +kernel
theorem dX7_split_50 : decode cX7_split 50 = .ok (.goto (-46), 3) := by decide +kernel
theorem dX7_split_53 : decode cX7_split 53 = .ok (.aload_n 0, 1) := by decide +kernel
theorem dX7_split_54 : decode cX7_split 54 = .ok (.getfield 15, 3) := by decide +kernel
theorem dX7_split_57 : decode cX7_split 57 = .ok (.iload_n 1, 1) := by decide +kernel
theorem dX7_split_58 : decode cX7_split 58 = .ok (.iconst 0, 1) := by decide +kernel
theorem dX7_split_59 : decode cX7_split 59 = .ok (.iastore, 1) := by decide +kernel
theorem dX7_split_60 : decode cX7_split 60 = .ok (.aload_n 0, 1) := by decide +kernel
theorem dX7_split_61 : decode cX7_split 61 = .ok (.getfield 18, 3) := by decide +kernel
theorem dX7_split_64 : decode cX7_split 64 = .ok (.iload_n 1, 1) := by decide +kernel
theorem dX7_split_65 : decode cX7_split 65 = .ok (.aload_n 0, 1) := by decide +kernel
theorem dX7_split_66 : decode cX7_split 66 = .ok (.getfield 24, 3) := by decide +kernel
theorem dX7_split_69 : decode cX7_split 69 = .ok (.iastore, 1) := by decide +kernel
theorem dX7_split_70 : decode cX7_split 70 = .ok (.return_, 1) := by decide +kernel
theorem dX7_goesOn_0 : decode cX7_goesOn 0 = .ok (.iload_n 1, 1) := by decide +kernel
theorem dX7_goesOn_1 : decode cX7_goesOn 1 = .ok (.iconst 1, 1) := by decide +kernel
theorem dX7_goesOn_2 : decode cX7_goesOn 2 = .ok (.if_icmp .lt 11, 3) := by decide +kernel
theorem dX7_goesOn_5 : decode cX7_goesOn 5 = .ok (.iload_n 1, 1) := by decide +kernel
theorem dX7_goesOn_6 : decode cX7_goesOn 6 = .ok (.aload_n 0, 1) := by decide +kernel
theorem dX7_goesOn_7 : decode cX7_goesOn 7 = .ok (.getfield 24, 3) := by decide +kernel
theorem dX7_goesOn_10 : decode cX7_goesOn 10 = .ok (.if_icmp .lt 5, 3) := by decide +kernel
theorem dX7_goesOn_13 : decode cX7_goesOn 13 = .ok (.iconst 0, 1) := by decide +kernel
theorem dX7_goesOn_14 : decode cX7_goesOn 14 = .ok (.ireturn, 1) := by decide +kernel
theorem dX7_goesOn_15 : decode cX7_goesOn 15 = .ok (.aload_n 0, 1) := by decide +kernel
theorem dX7_goesOn_16 : decode cX7_goesOn 16 = .ok (.getfield 9, 3) := by decide +kernel
theorem dX7_goesOn_19 : decode cX7_goesOn 19 = .ok (.iload_n 1, 1) := by decide +kernel
theorem dX7_goesOn_20 : decode cX7_goesOn 20 = .ok (.iaload, 1) := by decide +kernel
theorem dX7_goesOn_21 : decode cX7_goesOn 21 = .ok (.invokestatic 36, 3) := by decide +kernel
theorem dX7_goesOn_24 : decode cX7_goesOn 24 = .ok (.ifCond .eq 17, 3) := by decide +kernel
theorem dX7_goesOn_27 : decode cX7_goesOn 27 = .ok (.aload_n 0, 1) := by decide +kernel
theorem dX7_goesOn_28 : decode cX7_goesOn 28 = .ok (.getfield 9, 3) := by decide +kernel
theorem dX7_goesOn_31 : decode cX7_goesOn 31 = .ok (.iload_n 1, 1) := by decide +kernel
theorem dX7_goesOn_32 : decode cX7_goesOn 32 = .ok (.iconst 1, 1) := by decide +kernel
theorem dX7_goesOn_33 : decode cX7_goesOn 33 = .ok (.isub, 1) := by decide +kernel
theorem dX7_goesOn_34 : decode cX7_goesOn 34 = .ok (.iaload, 1) := by decide +kernel
theorem dX7_goesOn_35 : decode cX7_goesOn 35 = .ok (.invokestatic 36, 3) := by decide +kernel
theorem dX7_goesOn_38 : decode cX7_goesOn 38 = .ok (.ifCond .ne 29, 3) := by decide +kernel
theorem dX7_goesOn_41 : decode cX7_goesOn 41 = .ok (.aload_n 0, 1) := by decide +kernel
theorem dX7_goesOn_42 : decode cX7_goesOn 42 = .ok (.getfield 9, 3) := by decide +kernel
theorem dX7_goesOn_45 : decode cX7_goesOn 45 = .ok (.iload_n 1, 1) := by decide +kernel
theorem dX7_goesOn_46 : decode cX7_goesOn 46 = .ok (.iaload, 1) := by decide +kernel
theorem dX7_goesOn_47 : decode cX7_goesOn 47 = .ok (.invokestatic 39, 3) := by decide +kernel
theorem dX7_goesOn_50 : decode cX7_goesOn 50 = .ok (.ifCond .eq 21, 3) := by decide +kernel
theorem dX7_goesOn_53 : decode cX7_goesOn 53 = .ok (.aload_n 0, 1) := by decide +kernel
theorem dX7_goesOn_54 : decode cX7_goesOn 54 = .ok (.getfield 9, 3) := by decide +kernel
theorem dX7_goesOn_57 : decode cX7_goesOn 57 = .ok (.iload_n 1, 1) := by decide +kernel
theorem dX7_goesOn_58 : decode cX7_goesOn 58 = .ok (.iconst 1, 1) := by decide +kernel
theorem dX7_goesOn_59 : decode cX7_goesOn 59 = .ok (.isub, 1) := by decide +kernel
theorem dX7_goesOn_60 : decode cX7_goesOn 60 = .ok (.iaload, 1) := by decide +kernel
theorem dX7_goesOn_61 : decode cX7_goesOn 61 = .ok (.invokestatic 39, 3) := by decide +kernel
theorem dX7_goesOn_64 : decode cX7_goesOn 64 = .ok (.ifCond .eq 7, 3) := by decide +kernel
theorem dX7_goesOn_67 : decode cX7_goesOn 67 = .ok (.iconst 1, 1) := by decide +kernel
theorem dX7_goesOn_68 : decode cX7_goesOn 68 = .ok (.goto 4, 3) := by decide +kernel
theorem dX7_goesOn_71 : decode cX7_goesOn 71 = .ok (.iconst 0, 1) := by decide +kernel
theorem dX7_goesOn_72 : decode cX7_goesOn 72 = .ok (.ireturn, 1) := by decide +kernel
theorem dX7_putKind_0 : decode cX7_putKind 0 = .ok (.iload_n 2, 1) := by decide +kernel
theorem dX7_putKind_1 : decode cX7_putKind 1 = .ok (.iconst 1, 1) := by decide +kernel
theorem dX7_putKind_2 : decode cX7_putKind 2 = .ok (.iadd, 1) := by decide +kernel
theorem dX7_putKind_3 : decode cX7_putKind 3 = .ok (.istore_n 3, 1) := by decide +kernel
theorem dX7_putKind_4 : decode cX7_putKind 4 = .ok (.iload_n 3, 1) := by decide +kernel
theorem dX7_putKind_5 : decode cX7_putKind 5 = .ok (.aload_n 0, 1) := by decide +kernel
theorem dX7_putKind_6 : decode cX7_putKind 6 = .ok (.getfield 24, 3) := by decide +kernel
theorem dX7_putKind_9 : decode cX7_putKind 9 = .ok (.if_icmp .ge 17, 3) := by decide +kernel
theorem dX7_putKind_12 : decode cX7_putKind 12 = .ok (.aload_n 0, 1) := by decide +kernel
theorem dX7_putKind_13 : decode cX7_putKind 13 = .ok (.iload_n 3, 1) := by decide +kernel
theorem dX7_putKind_14 : decode cX7_putKind 14 = .ok (.invokevirtual 28, 3) := by decide +kernel
theorem dX7_putKind_17 : decode cX7_putKind 17 = .ok (.ifCond .eq 9, 3) := by decide +kernel
theorem dX7_putKind_20 : decode cX7_putKind 20 = .ok (.iinc 3 1, 3) := by decide +kernel
theorem dX7_putKind_23 : decode cX7_putKind 23 = .ok (.goto (-19), 3) := by decide +kernel
theorem dX7_putKind_26 : decode cX7_putKind 26 = .ok (.aload_n 0, 1) := by decide +kernel
theorem dX7_putKind_27 : decode cX7_putKind 27 = .ok (.getfield 21, 3) := by decide +kernel
theorem dX7_putKind_30 : decode cX7_putKind 30 = .ok (.iload_n 1, 1) := by decide +kernel
theorem dX7_putKind_31 : decode cX7_putKind 31 = .ok (.iconst 0, 1) := by decide +kernel
theorem dX7_putKind_32 : decode cX7_putKind 32 = .ok (.iastore, 1) := by decide +kernel
theorem dX7_putKind_33 : decode cX7_putKind 33 = .ok (.aload_n 0, 1) := by decide +kernel
theorem dX7_putKind_34 : decode cX7_putKind 34 = .ok (.getfield 9, 3) := by decide +kernel
theorem dX7_putKind_37 : decode cX7_putKind 37 = .ok (.iload_n 2, 1) := by decide +kernel
theorem dX7_putKind_38 : decode cX7_putKind 38 = .ok (.iaload, 1) := by decide +kernel
theorem dX7_putKind_39 : decode cX7_putKind 39 = .ok (.invokestatic 36, 3) := by decide +kernel
theorem dX7_putKind_42 : decode cX7_putKind 42 = .ok (.ifCond .eq 18, 3) := by decide +kernel
theorem dX7_putKind_45 : decode cX7_putKind 45 = .ok (.aload_n 0, 1) := by decide +kernel
theorem dX7_putKind_46 : decode cX7_putKind 46 = .ok (.getfield 15, 3) := by decide +kernel
theorem dX7_putKind_49 : decode cX7_putKind 49 = .ok (.iload_n 1, 1) := by decide +kernel
theorem dX7_putKind_50 : decode cX7_putKind 50 = .ok (.aload_n 0, 1) := by decide +kernel
theorem dX7_putKind_51 : decode cX7_putKind 51 = .ok (.iload_n 2, 1) := by decide +kernel
theorem dX7_putKind_52 : decode cX7_putKind 52 = .ok (.iload_n 3, 1) := by decide +kernel
theorem dX7_putKind_53 : decode cX7_putKind 53 = .ok (.invokevirtual 42, 3) := by decide +kernel
theorem dX7_putKind_56 : decode cX7_putKind 56 = .ok (.iastore, 1) := by decide +kernel
theorem dX7_putKind_57 : decode cX7_putKind 57 = .ok (.goto 64, 3) := by decide +kernel
theorem dX7_putKind_60 : decode cX7_putKind 60 = .ok (.aload_n 0, 1) := by decide +kernel
theorem dX7_putKind_61 : decode cX7_putKind 61 = .ok (.getfield 9, 3) := by decide +kernel
theorem dX7_putKind_64 : decode cX7_putKind 64 = .ok (.iload_n 2, 1) := by decide +kernel
theorem dX7_putKind_65 : decode cX7_putKind 65 = .ok (.iaload, 1) := by decide +kernel
theorem dX7_putKind_66 : decode cX7_putKind 66 = .ok (.invokestatic 39, 3) := by decide +kernel
theorem dX7_putKind_69 : decode cX7_putKind 69 = .ok (.ifCond .eq 30, 3) := by decide +kernel
theorem dX7_putKind_72 : decode cX7_putKind 72 = .ok (.aload_n 0, 1) := by decide +kernel
theorem dX7_putKind_73 : decode cX7_putKind 73 = .ok (.getfield 15, 3) := by decide +kernel
theorem dX7_putKind_76 : decode cX7_putKind 76 = .ok (.iload_n 1, 1) := by decide +kernel
theorem dX7_putKind_77 : decode cX7_putKind 77 = .ok (.aload_n 0, 1) := by decide +kernel
theorem dX7_putKind_78 : decode cX7_putKind 78 = .ok (.iload_n 2, 1) := by decide +kernel
theorem dX7_putKind_79 : decode cX7_putKind 79 = .ok (.iload_n 3, 1) := by decide +kernel
theorem dX7_putKind_80 : decode cX7_putKind 80 = .ok (.invokevirtual 46, 3) := by decide +kernel
theorem dX7_putKind_83 : decode cX7_putKind 83 = .ok (.iastore, 1) := by decide +kernel
theorem dX7_putKind_84 : decode cX7_putKind 84 = .ok (.aload_n 0, 1) := by decide +kernel
theorem dX7_putKind_85 : decode cX7_putKind 85 = .ok (.getfield 21, 3) := by decide +kernel
theorem dX7_putKind_88 : decode cX7_putKind 88 = .ok (.iload_n 1, 1) := by decide +kernel
theorem dX7_putKind_89 : decode cX7_putKind 89 = .ok (.aload_n 0, 1) := by decide +kernel
theorem dX7_putKind_90 : decode cX7_putKind 90 = .ok (.iload_n 2, 1) := by decide +kernel
theorem dX7_putKind_91 : decode cX7_putKind 91 = .ok (.iload_n 3, 1) := by decide +kernel
theorem dX7_putKind_92 : decode cX7_putKind 92 = .ok (.invokevirtual 49, 3) := by decide +kernel
theorem dX7_putKind_95 : decode cX7_putKind 95 = .ok (.iastore, 1) := by decide +kernel
theorem dX7_putKind_96 : decode cX7_putKind 96 = .ok (.goto 25, 3) := by decide +kernel
theorem dX7_putKind_99 : decode cX7_putKind 99 = .ok (.aload_n 0, 1) := by decide +kernel
theorem dX7_putKind_100 : decode cX7_putKind 100 = .ok (.getfield 15, 3) := by decide +kernel
theorem dX7_putKind_103 : decode cX7_putKind 103 = .ok (.iload_n 1, 1) := by decide +kernel
theorem dX7_putKind_104 : decode cX7_putKind 104 = .ok (.aload_n 0, 1) := by decide +kernel
theorem dX7_putKind_105 : decode cX7_putKind 105 = .ok (.getfield 9, 3) := by decide +kernel
theorem dX7_putKind_108 : decode cX7_putKind 108 = .ok (.iload_n 2, 1) := by decide +kernel
theorem dX7_putKind_109 : decode cX7_putKind 109 = .ok (.iaload, 1) := by decide +kernel
theorem dX7_putKind_110 : decode cX7_putKind 110 = .ok (.bipush 59, 2) := by decide +kernel
theorem dX7_putKind_112 : decode cX7_putKind 112 = .ok (.if_icmp .ne 7, 3) := by decide +kernel
theorem dX7_putKind_115 : decode cX7_putKind 115 = .ok (.iconst 4, 1) := by decide +kernel
theorem dX7_putKind_116 : decode cX7_putKind 116 = .ok (.goto 4, 3) := by decide +kernel
theorem dX7_putKind_119 : decode cX7_putKind 119 = .ok (.iconst 5, 1) := by decide +kernel
theorem dX7_putKind_120 : decode cX7_putKind 120 = .ok (.iastore, 1) := by decide +kernel
theorem dX7_putKind_121 : decode cX7_putKind 121 = .ok (.return_, 1) := by decide +kernel
theorem dX7_kindOfWord_0 : decode cX7_kindOfWord 0 = .ok (.aload_n 0, 1) := by decide +kernel
theorem dX7_kindOfWord_1 : decode cX7_kindOfWord 1 = .ok (.ldc 52, 2) := by decide +kernel
theorem dX7_kindOfWord_3 : decode cX7_kindOfWord 3 = .ok (.iload_n 1, 1) := by decide +kernel
theorem dX7_kindOfWord_4 : decode cX7_kindOfWord 4 = .ok (.iload_n 2, 1) := by decide +kernel
theorem dX7_kindOfWord_5 : decode cX7_kindOfWord 5 = .ok (.invokevirtual 54, 3) := by decide +kernel
theorem dX7_kindOfWord_8 : decode cX7_kindOfWord 8 = .ok (.ifCond .eq 5, 3) := by decide +kernel
theorem dX7_kindOfWord_11 : decode cX7_kindOfWord 11 = .ok (.iconst 1, 1) := by decide +kernel
theorem dX7_kindOfWord_12 : decode cX7_kindOfWord 12 = .ok (.ireturn, 1) := by decide +kernel
theorem dX7_kindOfWord_13 : decode cX7_kindOfWord 13 = .ok (.aload_n 0, 1) := by decide +kernel
theorem dX7_kindOfWord_14 : decode cX7_kindOfWord 14 = .ok (.ldc 58, 2) := by decide +kernel
theorem dX7_kindOfWord_16 : decode cX7_kindOfWord 16 = .ok (.iload_n 1, 1) := by decide +kernel
theorem dX7_kindOfWord_17 : decode cX7_kindOfWord 17 = .ok (.iload_n 2, 1) := by decide +kernel
theorem dX7_kindOfWord_18 : decode cX7_kindOfWord 18 = .ok (.invokevirtual 54, 3) := by decide +kernel
theorem dX7_kindOfWord_21 : decode cX7_kindOfWord 21 = .ok (.ifCond .eq 7, 3) := by decide +kernel
theorem dX7_kindOfWord_24 : decode cX7_kindOfWord 24 = .ok (.iconst 2, 1) := by decide +kernel
theorem dX7_kindOfWord_25 : decode cX7_kindOfWord 25 = .ok (.goto 4, 3) := by decide +kernel
theorem dX7_kindOfWord_28 : decode cX7_kindOfWord 28 = .ok (.iconst 5, 1) := by decide +kernel
theorem dX7_kindOfWord_29 : decode cX7_kindOfWord 29 = .ok (.ireturn, 1) := by decide +kernel
theorem dX7_isWord_0 : decode cX7_isWord 0 = .ok (.iload_n 3, 1) := by decide +kernel
theorem dX7_isWord_1 : decode cX7_isWord 1 = .ok (.iload_n 2, 1) := by decide +kernel
theorem dX7_isWord_2 : decode cX7_isWord 2 = .ok (.isub, 1) := by decide +kernel
theorem dX7_isWord_3 : decode cX7_isWord 3 = .ok (.aload_n 1, 1) := by decide +kernel
theorem dX7_isWord_4 : decode cX7_isWord 4 = .ok (.invokevirtual 60, 3) := by decide +kernel
theorem dX7_isWord_7 : decode cX7_isWord 7 = .ok (.if_icmp .eq 5, 3) := by decide +kernel
theorem dX7_isWord_10 : decode cX7_isWord 10 = .ok (.iconst 0, 1) := by decide +kernel
theorem dX7_isWord_11 : decode cX7_isWord 11 = .ok (.ireturn, 1) := by decide +kernel
theorem dX7_isWord_12 : decode cX7_isWord 12 = .ok (.iload_n 2, 1) := by decide +kernel
theorem dX7_isWord_13 : decode cX7_isWord 13 = .ok (.istore 4, 2) := by decide +kernel
theorem dX7_isWord_15 : decode cX7_isWord 15 = .ok (.iload 4, 2) := by decide +kernel
theorem dX7_isWord_17 : decode cX7_isWord 17 = .ok (.iload_n 3, 1) := by decide +kernel
theorem dX7_isWord_18 : decode cX7_isWord 18 = .ok (.if_icmp .ge 29, 3) := by decide +kernel
theorem dX7_isWord_21 : decode cX7_isWord 21 = .ok (.aload_n 0, 1) := by decide +kernel
theorem dX7_isWord_22 : decode cX7_isWord 22 = .ok (.getfield 9, 3) := by decide +kernel
theorem dX7_isWord_25 : decode cX7_isWord 25 = .ok (.iload 4, 2) := by decide +kernel
theorem dX7_isWord_27 : decode cX7_isWord 27 = .ok (.iaload, 1) := by decide +kernel
theorem dX7_isWord_28 : decode cX7_isWord 28 = .ok (.aload_n 1, 1) := by decide +kernel
theorem dX7_isWord_29 : decode cX7_isWord 29 = .ok (.iload 4, 2) := by decide +kernel
theorem dX7_isWord_31 : decode cX7_isWord 31 = .ok (.iload_n 2, 1) := by decide +kernel
theorem dX7_isWord_32 : decode cX7_isWord 32 = .ok (.isub, 1) := by decide +kernel
theorem dX7_isWord_33 : decode cX7_isWord 33 = .ok (.invokevirtual 65, 3) := by decide +kernel
theorem dX7_isWord_36 : decode cX7_isWord 36 = .ok (.if_icmp .eq 5, 3) := by decide +kernel
theorem dX7_isWord_39 : decode cX7_isWord 39 = .ok (.iconst 0, 1) := by decide +kernel
theorem dX7_isWord_40 : decode cX7_isWord 40 = .ok (.ireturn, 1) := by decide +kernel
theorem dX7_isWord_41 : decode cX7_isWord 41 = .ok (.iinc 4 1, 3) := by decide +kernel
theorem dX7_isWord_44 : decode cX7_isWord 44 = .ok (.goto (-29), 3) := by decide +kernel
theorem dX7_isWord_47 : decode cX7_isWord 47 = .ok (.iconst 1, 1) := by decide +kernel
theorem dX7_isWord_48 : decode cX7_isWord 48 = .ok (.ireturn, 1) := by decide +kernel
theorem dX7_kindOfNumber_0 : decode cX7_kindOfNumber 0 = .ok (.aload_n 0, 1) := by decide +kernel
theorem dX7_kindOfNumber_1 : decode cX7_kindOfNumber 1 = .ok (.getfield 9, 3) := by decide +kernel
theorem dX7_kindOfNumber_4 : decode cX7_kindOfNumber 4 = .ok (.iload_n 1, 1) := by decide +kernel
theorem dX7_kindOfNumber_5 : decode cX7_kindOfNumber 5 = .ok (.iaload, 1) := by decide +kernel
theorem dX7_kindOfNumber_6 : decode cX7_kindOfNumber 6 = .ok (.bipush 48, 2) := by decide +kernel
theorem dX7_kindOfNumber_8 : decode cX7_kindOfNumber 8 = .ok (.if_icmp .ne 14, 3) := by decide +kernel
theorem dX7_kindOfNumber_11 : decode cX7_kindOfNumber 11 = .ok (.iload_n 2, 1) := by decide +kernel
theorem dX7_kindOfNumber_12 : decode cX7_kindOfNumber 12 = .ok (.iload_n 1, 1) := by decide +kernel
theorem dX7_kindOfNumber_13 : decode cX7_kindOfNumber 13 = .ok (.isub, 1) := by decide +kernel
theorem dX7_kindOfNumber_14 : decode cX7_kindOfNumber 14 = .ok (.iconst 1, 1) := by decide +kernel
theorem dX7_kindOfNumber_15 : decode cX7_kindOfNumber 15 = .ok (.if_icmp .le 7, 3) := by decide +kernel
theorem dX7_kindOfNumber_18 : decode cX7_kindOfNumber 18 = .ok (.iconst 1, 1) := by decide +kernel
theorem dX7_kindOfNumber_19 : decode cX7_kindOfNumber 19 = .ok (.goto 4, 3) := by decide +kernel
theorem dX7_kindOfNumber_22 : decode cX7_kindOfNumber 22 = .ok (.iconst 0, 1) := by decide +kernel
theorem dX7_kindOfNumber_23 : decode cX7_kindOfNumber 23 = .ok (.istore_n 3, 1) := by decide +kernel
theorem dX7_kindOfNumber_24 : decode cX7_kindOfNumber 24 = .ok (.iload_n 3, 1) := by decide +kernel
theorem dX7_kindOfNumber_25 : decode cX7_kindOfNumber 25 = .ok (.ifCond .ne 10, 3) := by decide +kernel
theorem dX7_kindOfNumber_28 : decode cX7_kindOfNumber 28 = .ok (.iload_n 2, 1) := by decide +kernel
theorem dX7_kindOfNumber_29 : decode cX7_kindOfNumber 29 = .ok (.iload_n 1, 1) := by decide +kernel
theorem dX7_kindOfNumber_30 : decode cX7_kindOfNumber 30 = .ok (.isub, 1) := by decide +kernel
theorem dX7_kindOfNumber_31 : decode cX7_kindOfNumber 31 = .ok (.iconst 2, 1) := by decide +kernel
theorem dX7_kindOfNumber_32 : decode cX7_kindOfNumber 32 = .ok (.if_icmp .le 7, 3) := by decide +kernel
theorem dX7_kindOfNumber_35 : decode cX7_kindOfNumber 35 = .ok (.iconst 5, 1) := by decide +kernel
theorem dX7_kindOfNumber_36 : decode cX7_kindOfNumber 36 = .ok (.goto 4, 3) := by decide +kernel
theorem dX7_kindOfNumber_39 : decode cX7_kindOfNumber 39 = .ok (.iconst 3, 1) := by decide +kernel
theorem dX7_kindOfNumber_40 : decode cX7_kindOfNumber 40 = .ok (.ireturn, 1) := by decide +kernel
theorem dX7_valueOf_0 : decode cX7_valueOf 0 = .ok (.iconst 0, 1) := by decide +kernel
theorem dX7_valueOf_1 : decode cX7_valueOf 1 = .ok (.istore_n 3, 1) := by decide +kernel
theorem dX7_valueOf_2 : decode cX7_valueOf 2 = .ok (.iload_n 1, 1) := by decide +kernel
theorem dX7_valueOf_3 : decode cX7_valueOf 3 = .ok (.istore 4, 2) := by decide +kernel
theorem dX7_valueOf_5 : decode cX7_valueOf 5 = .ok (.iload 4, 2) := by decide +kernel
theorem dX7_valueOf_7 : decode cX7_valueOf 7 = .ok (.iload_n 2, 1) := by decide +kernel
theorem dX7_valueOf_8 : decode cX7_valueOf 8 = .ok (.if_icmp .ge 33, 3) := by decide +kernel
theorem dX7_valueOf_11 : decode cX7_valueOf 11 = .ok (.iload 4, 2) := by decide +kernel
theorem dX7_valueOf_13 : decode cX7_valueOf 13 = .ok (.iload_n 1, 1) := by decide +kernel
theorem dX7_valueOf_14 : decode cX7_valueOf 14 = .ok (.iconst 2, 1) := by decide +kernel
theorem dX7_valueOf_15 : decode cX7_valueOf 15 = .ok (.iadd, 1) := by decide +kernel
theorem dX7_valueOf_16 : decode cX7_valueOf 16 = .ok (.if_icmp .ge 25, 3) := by decide +kernel
theorem dX7_valueOf_19 : decode cX7_valueOf 19 = .ok (.bipush 10, 2) := by decide +kernel
theorem dX7_valueOf_21 : decode cX7_valueOf 21 = .ok (.iload_n 3, 1) := by decide +kernel
theorem dX7_valueOf_22 : decode cX7_valueOf 22 = .ok (.imul, 1) := by decide +kernel
theorem dX7_valueOf_23 : decode cX7_valueOf 23 = .ok (.aload_n 0, 1) := by decide +kernel
theorem dX7_valueOf_24 : decode cX7_valueOf 24 = .ok (.getfield 9, 3) := by decide +kernel
theorem dX7_valueOf_27 : decode cX7_valueOf 27 = .ok (.iload 4, 2) := by decide +kernel
theorem dX7_valueOf_29 : decode cX7_valueOf 29 = .ok (.iaload, 1) := by decide +kernel
theorem dX7_valueOf_30 : decode cX7_valueOf 30 = .ok (.iadd, 1) := by decide +kernel
theorem dX7_valueOf_31 : decode cX7_valueOf 31 = .ok (.bipush 48, 2) := by decide +kernel
theorem dX7_valueOf_33 : decode cX7_valueOf 33 = .ok (.isub, 1) := by decide +kernel
theorem dX7_valueOf_34 : decode cX7_valueOf 34 = .ok (.istore_n 3, 1) := by decide +kernel
theorem dX7_valueOf_35 : decode cX7_valueOf 35 = .ok (.iinc 4 1, 3) := by decide +kernel
theorem dX7_valueOf_38 : decode cX7_valueOf 38 = .ok (.goto (-33), 3) := by decide +kernel
theorem dX7_valueOf_41 : decode cX7_valueOf 41 = .ok (.iload_n 3, 1) := by decide +kernel
theorem dX7_valueOf_42 : decode cX7_valueOf 42 = .ok (.ireturn, 1) := by decide +kernel
theorem dX7_isSmallLetter_0 : decode cX7_isSmallLetter 0 = .ok (.iload_n 0, 1) := by decide +kernel
theorem dX7_isSmallLetter_1 : decode cX7_isSmallLetter 1 = .ok (.bipush 97, 2) := by decide +kernel
theorem dX7_isSmallLetter_3 : decode cX7_isSmallLetter 3 = .ok (.if_icmp .lt 13, 3) := by decide +kernel
theorem dX7_isSmallLetter_6 : decode cX7_isSmallLetter 6 = .ok (.iload_n 0, 1) := by decide +kernel
theorem dX7_isSmallLetter_7 : decode cX7_isSmallLetter 7 = .ok (.bipush 122, 2) := by decide +kernel
theorem dX7_isSmallLetter_9 : decode cX7_isSmallLetter 9 = .ok (.if_icmp .gt 7, 3) := by decide +kernel
theorem dX7_isSmallLetter_12 : decode cX7_isSmallLetter 12 = .ok (.iconst 1, 1) := by decide +kernel
theorem dX7_isSmallLetter_13 : decode cX7_isSmallLetter 13 = .ok (.goto 4, 3) := by decide +kernel
theorem dX7_isSmallLetter_16 : decode cX7_isSmallLetter 16 = .ok (.iconst 0, 1) := by decide +kernel
theorem dX7_isSmallLetter_17 : decode cX7_isSmallLetter 17 = .ok (.ireturn, 1) := by decide +kernel
theorem dX7_isFigure_0 : decode cX7_isFigure 0 = .ok (.iload_n 0, 1) := by decide +kernel
theorem dX7_isFigure_1 : decode cX7_isFigure 1 = .ok (.bipush 48, 2) := by decide +kernel
theorem dX7_isFigure_3 : decode cX7_isFigure 3 = .ok (.if_icmp .lt 13, 3) := by decide +kernel
theorem dX7_isFigure_6 : decode cX7_isFigure 6 = .ok (.iload_n 0, 1) := by decide +kernel
theorem dX7_isFigure_7 : decode cX7_isFigure 7 = .ok (.bipush 57, 2) := by decide +kernel
theorem dX7_isFigure_9 : decode cX7_isFigure 9 = .ok (.if_icmp .gt 7, 3) := by decide +kernel
theorem dX7_isFigure_12 : decode cX7_isFigure 12 = .ok (.iconst 1, 1) := by decide +kernel
theorem dX7_isFigure_13 : decode cX7_isFigure 13 = .ok (.goto 4, 3) := by decide +kernel
theorem dX7_isFigure_16 : decode cX7_isFigure 16 = .ok (.iconst 0, 1) := by decide +kernel
theorem dX7_isFigure_17 : decode cX7_isFigure 17 = .ok (.ireturn, 1) := by decide +kernel
theorem dX8_init_0 : decode cX8_init 0 = .ok (.aload_n 0, 1) := by decide +kernel
theorem dX8_init_1 : decode cX8_init 1 = .ok (.invokespecial 3, 3) := by decide +kernel
theorem dX8_init_4 : decode cX8_init 4 = .ok (.aload_n 0, 1) := by decide +kernel
theorem dX8_init_5 : decode cX8_init 5 = .ok (.new 9, 3) := by decide +kernel
theorem dX8_init_8 : decode cX8_init 8 = .ok (.dup, 1) := by decide +kernel
theorem dX8_init_9 : decode cX8_init 9 = .ok (.invokespecial 11, 3) := by decide +kernel
theorem dX8_init_12 : decode cX8_init 12 = .ok (.putfield 12, 3) := by decide +kernel
theorem dX8_init_15 : decode cX8_init 15 = .ok (.aload_n 0, 1) := by decide +kernel
theorem dX8_init_16 : decode cX8_init 16 = .ok (.new 16, 3) := by decide +kernel
theorem dX8_init_19 : decode cX8_init 19 = .ok (.dup, 1) := by decide +kernel
theorem dX8_init_20 : decode cX8_init 20 = .ok (.aload_n 0, 1) := by decide +kernel
theorem dX8_init_21 : decode cX8_init 21 = .ok (.getfield 12, 3) := by decide +kernel
theorem dX8_init_24 : decode cX8_init 24 = .ok (.invokespecial 18, 3) := by decide +kernel
theorem dX8_init_27 : decode cX8_init 27 = .ok (.putfield 21, 3) := by decide +kernel
theorem dX8_init_30 : decode cX8_init 30 = .ok (.aload_n 0, 1) := by decide +kernel
theorem dX8_init_31 : decode cX8_init 31 = .ok (.new 25, 3) := by decide +kernel
theorem dX8_init_34 : decode cX8_init 34 = .ok (.dup, 1) := by decide +kernel
theorem dX8_init_35 : decode cX8_init 35 = .ok (.invokespecial 27, 3) := by decide +kernel
theorem dX8_init_38 : decode cX8_init 38 = .ok (.putfield 28, 3) := by decide +kernel
theorem dX8_init_41 : decode cX8_init 41 = .ok (.aload_n 0, 1) := by decide +kernel
theorem dX8_init_42 : decode cX8_init 42 = .ok (.new 32, 3) := by decide +kernel
theorem dX8_init_45 : decode cX8_init 45 = .ok (.dup, 1) := by decide +kernel
theorem dX8_init_46 : decode cX8_init 46 = .ok (.invokespecial 34, 3) := by decide +kernel
theorem dX8_init_49 : decode cX8_init 49 = .ok (.putfield 35, 3) := by decide +kernel
theorem dX8_init_52 : decode cX8_init 52 = .ok (.aload_n 0, 1) := by decide +kernel
theorem dX8_init_53 : decode cX8_init 53 = .ok (.iconst 2, 1) := by decide +kernel
theorem dX8_init_54 : decode cX8_init 54 = .ok (.anewarray 25, 3) := by decide +kernel
theorem dX8_init_57 : decode cX8_init 57 = .ok (.putfield 39, 3) := by decide +kernel
theorem dX8_init_60 : decode cX8_init 60 = .ok (.aload_n 0, 1) := by decide +kernel
theorem dX8_init_61 : decode cX8_init 61 = .ok (.iconst 2, 1) := by decide +kernel
theorem dX8_init_62 : decode cX8_init 62 = .ok (.newarray .boolean, 2) := by decide +kernel
theorem dX8_init_64 : decode cX8_init 64 = .ok (.putfield 43, 3) := by decide +kernel
theorem dX8_init_67 : decode cX8_init 67 = .ok (.iconst 0, 1) := by decide +kernel
theorem dX8_init_68 : decode cX8_init 68 = .ok (.istore_n 1, 1) := by decide +kernel
theorem dX8_init_69 : decode cX8_init 69 = .ok (.iload_n 1, 1) := by decide +kernel
theorem dX8_init_70 : decode cX8_init 70 = .ok (.iconst 2, 1) := by decide +kernel
theorem dX8_init_71 : decode cX8_init 71 = .ok (.if_icmp .ge 22, 3) := by decide +kernel
theorem dX8_init_74 : decode cX8_init 74 = .ok (.aload_n 0, 1) := by decide +kernel
theorem dX8_init_75 : decode cX8_init 75 = .ok (.getfield 39, 3) := by decide +kernel
theorem dX8_init_78 : decode cX8_init 78 = .ok (.iload_n 1, 1) := by decide +kernel
theorem dX8_init_79 : decode cX8_init 79 = .ok (.new 25, 3) := by decide +kernel
theorem dX8_init_82 : decode cX8_init 82 = .ok (.dup, 1) := by decide +kernel
theorem dX8_init_83 : decode cX8_init 83 = .ok (.invokespecial 27, 3) := by decide +kernel
theorem dX8_init_86 : decode cX8_init 86 = .ok (.aastore, 1) := by decide +kernel
theorem dX8_init_87 : decode cX8_init 87 = .ok (.iinc 1 1, 3) := by decide +kernel
theorem dX8_init_90 : decode cX8_init 90 = .ok (.goto (-21), 3) := by decide +kernel
theorem dX8_init_93 : decode cX8_init 93 = .ok (.aload_n 0, 1) := by decide +kernel
theorem dX8_init_94 : decode cX8_init 94 = .ok (.new 47, 3) := by decide +kernel
theorem dX8_init_97 : decode cX8_init 97 = .ok (.dup, 1) := by decide +kernel
theorem dX8_init_98 : decode cX8_init 98 = .ok (.invokespecial 49, 3) := by decide +kernel
theorem dX8_init_101 : decode cX8_init 101 = .ok (.putfield 50, 3) := by decide +kernel
theorem dX8_init_104 : decode cX8_init 104 = .ok (.aload_n 0, 1) := by decide +kernel
theorem dX8_init_105 : decode cX8_init 105 = .ok (.iconst 4, 1) := by decide +kernel
theorem dX8_init_106 : decode cX8_init 106 = .ok (.anewarray 54, 3) := by decide +kernel
theorem dX8_init_109 : decode cX8_init 109 = .ok (.putfield 56, 3) := by decide +kernel
theorem dX8_init_112 : decode cX8_init 112 = .ok (.aload_n 0, 1) := by decide +kernel
theorem dX8_init_113 : decode cX8_init 113 = .ok (.iconst 4, 1) := by decide +kernel
theorem dX8_init_114 : decode cX8_init 114 = .ok (.anewarray 54, 3) := by decide +kernel
theorem dX8_init_117 : decode cX8_init 117 = .ok (.putfield 60, 3) := by decide +kernel
theorem dX8_init_120 : decode cX8_init 120 = .ok (.iconst 0, 1) := by decide +kernel
theorem dX8_init_121 : decode cX8_init 121 = .ok (.istore_n 1, 1) := by decide +kernel
theorem dX8_init_122 : decode cX8_init 122 = .ok (.iload_n 1, 1) := by decide +kernel
theorem dX8_init_123 : decode cX8_init 123 = .ok (.iconst 4, 1) := by decide +kernel
theorem dX8_init_124 : decode cX8_init 124 = .ok (.if_icmp .ge 37, 3) := by decide +kernel
theorem dX8_init_127 : decode cX8_init 127 = .ok (.aload_n 0, 1) := by decide +kernel
theorem dX8_init_128 : decode cX8_init 128 = .ok (.getfield 56, 3) := by decide +kernel
theorem dX8_init_131 : decode cX8_init 131 = .ok (.iload_n 1, 1) := by decide +kernel
theorem dX8_init_132 : decode cX8_init 132 = .ok (.new 54, 3) := by decide +kernel
theorem dX8_init_135 : decode cX8_init 135 = .ok (.dup, 1) := by decide +kernel
theorem dX8_init_136 : decode cX8_init 136 = .ok (.iconst 1, 1) := by decide +kernel
theorem dX8_init_137 : decode cX8_init 137 = .ok (.invokespecial 63, 3) := by decide +kernel
theorem dX8_init_140 : decode cX8_init 140 = .ok (.aastore, 1) := by decide +kernel
theorem dX8_init_141 : decode cX8_init 141 = .ok (.aload_n 0, 1) := by decide +kernel
theorem dX8_init_142 : decode cX8_init 142 = .ok (.getfield 60, 3) := by decide +kernel
theorem dX8_init_145 : decode cX8_init 145 = .ok (.iload_n 1, 1) := by decide +kernel
theorem dX8_init_146 : decode cX8_init 146 = .ok (.new 54, 3) := by decide +kernel
theorem dX8_init_149 : decode cX8_init 149 = .ok (.dup, 1) := by decide +kernel
theorem dX8_init_150 : decode cX8_init 150 = .ok (.iconst 0, 1) := by decide +kernel
theorem dX8_init_151 : decode cX8_init 151 = .ok (.invokespecial 63, 3) := by decide +kernel
theorem dX8_init_154 : decode cX8_init 154 = .ok (.aastore, 1) := by decide +kernel
theorem dX8_init_155 : decode cX8_init 155 = .ok (.iinc 1 1, 3) := by decide +kernel
theorem dX8_init_158 : decode cX8_init 158 = .ok (.goto (-36), 3) := by decide +kernel
theorem dX8_init_161 : decode cX8_init 161 = .ok (.aload_n 0, 1) := by decide +kernel
theorem dX8_init_162 : decode cX8_init 162 = .ok (.new 66, 3) := by decide +kernel
theorem dX8_init_165 : decode cX8_init 165 = .ok (.dup, 1) := by decide +kernel
theorem dX8_init_166 : decode cX8_init 166 = .ok (.invokespecial 68, 3) := by decide +kernel
theorem dX8_init_169 : decode cX8_init 169 = .ok (.putfield 69, 3) := by decide +kernel
theorem dX8_init_172 : decode cX8_init 172 = .ok (.aload_n 0, 1) := by decide +kernel
theorem dX8_init_173 : decode cX8_init 173 = .ok (.iconst 4, 1) := by decide +kernel
theorem dX8_init_174 : decode cX8_init 174 = .ok (.newarray .int, 2) := by decide +kernel
theorem dX8_init_176 : decode cX8_init 176 = .ok (.putfield 73, 3) := by decide +kernel
theorem dX8_init_179 : decode cX8_init 179 = .ok (.return_, 1) := by decide +kernel
theorem dX8_type_0 : decode cX8_type 0 = .ok (.iload_n 1, 1) := by decide +kernel
theorem dX8_type_1 : decode cX8_type 1 = .ok (.ifCond .lt 10, 3) := by decide +kernel
theorem dX8_type_4 : decode cX8_type 4 = .ok (.iload_n 1, 1) := by decide +kernel
theorem dX8_type_5 : decode cX8_type 5 = .ok (.sipush 255, 3) := by decide +kernel
theorem dX8_type_8 : decode cX8_type 8 = .ok (.if_icmp .le 5, 3) := by decide +kernel
theorem dX8_type_11 : decode cX8_type 11 = .ok (.iconst (-1), 1) := by decide +kernel
theorem dX8_type_12 : decode cX8_type 12 = .ok (.ireturn, 1) := by decide +kernel
theorem dX8_type_13 : decode cX8_type 13 = .ok (.aload_n 0, 1) := by decide +kernel
theorem dX8_type_14 : decode cX8_type 14 = .ok (.getfield 12, 3) := by decide +kernel
theorem dX8_type_17 : decode cX8_type 17 = .ok (.iload_n 1, 1) := by decide +kernel
theorem dX8_type_18 : decode cX8_type 18 = .ok (.invokevirtual 77, 3) := by decide +kernel
theorem dX8_type_21 : decode cX8_type 21 = .ok (.ifCond .eq 13, 3) := by decide +kernel
theorem dX8_type_24 : decode cX8_type 24 = .ok (.aload_n 0, 1) := by decide +kernel
theorem dX8_type_25 : decode cX8_type 25 = .ok (.getfield 12, 3) := by decide +kernel
theorem dX8_type_28 : decode cX8_type 28 = .ok (.getfield 81, 3) := by decide +kernel
theorem dX8_type_31 : decode cX8_type 31 = .ok (.goto 5, 3) := by decide +kernel
theorem dX8_type_34 : decode cX8_type 34 = .ok (.bipush (-3), 2) := by decide +kernel
theorem dX8_type_36 : decode cX8_type 36 = .ok (.ireturn, 1) := by decide +kernel
theorem dX8_clear_0 : decode cX8_clear 0 = .ok (.aload_n 0, 1) := by decide +kernel
theorem dX8_clear_1 : decode cX8_clear 1 = .ok (.getfield 12, 3) := by decide +kernel
theorem dX8_clear_4 : decode cX8_clear 4 = .ok (.getfield 81, 3) := by decide +kernel
theorem dX8_clear_7 : decode cX8_clear 7 = .ok (.istore_n 1, 1) := by decide +kernel
theorem dX8_clear_8 : decode cX8_clear 8 = .ok (.aload_n 0, 1) := by decide +kernel
theorem dX8_clear_9 : decode cX8_clear 9 = .ok (.getfield 12, 3) := by decide +kernel
theorem dX8_clear_12 : decode cX8_clear 12 = .ok (.iconst 0, 1) := by decide +kernel
theorem dX8_clear_13 : decode cX8_clear 13 = .ok (.putfield 81, 3) := by decide +kernel
theorem dX8_clear_16 : decode cX8_clear 16 = .ok (.iload_n 1, 1) := by decide +kernel
theorem dX8_clear_17 : decode cX8_clear 17 = .ok (.ireturn, 1) := by decide +kernel
theorem dX8_tells_0 : decode cX8_tells 0 = .ok (.aload_n 0, 1) := by decide +kernel
theorem dX8_tells_1 : decode cX8_tells 1 = .ok (.getfield 21, 3) := by decide +kernel
theorem dX8_tells_4 : decode cX8_tells 4 = .ok (.invokevirtual 85, 3) := by decide +kernel
theorem dX8_tells_7 : decode cX8_tells 7 = .ok (.ifCond .ne 14, 3) := by decide +kernel
theorem dX8_tells_10 : decode cX8_tells 10 = .ok (.bipush (-10), 2) := by decide +kernel
theorem dX8_tells_12 : decode cX8_tells 12 = .ok (.aload_n 0, 1) := by decide +kernel
theorem dX8_tells_13 : decode cX8_tells 13 = .ok (.getfield 21, 3) := by decide +kernel
theorem dX8_tells_16 : decode cX8_tells 16 = .ok (.invokevirtual 89, 3) := by decide +kernel
theorem dX8_tells_19 : decode cX8_tells 19 = .ok (.isub, 1) := by decide +kernel
theorem dX8_tells_20 : decode cX8_tells 20 = .ok (.ireturn, 1) := by decide +kernel
theorem dX8_tells_21 : decode cX8_tells 21 = .ok (.aload_n 0, 1) := by decide +kernel
theorem dX8_tells_22 : decode cX8_tells 22 = .ok (.getfield 35, 3) := by decide +kernel
theorem dX8_tells_25 : decode cX8_tells 25 = .ok (.aload_n 0, 1) := by decide +kernel
theorem dX8_tells_26 : decode cX8_tells 26 = .ok (.getfield 28, 3) := by decide +kernel
theorem dX8_tells_29 : decode cX8_tells 29 = .ok (.invokevirtual 93, 3) := by decide +kernel
theorem dX8_tells_32 : decode cX8_tells 32 = .ok (.aload_n 0, 1) := by decide +kernel
theorem dX8_tells_33 : decode cX8_tells 33 = .ok (.getfield 28, 3) := by decide +kernel
theorem dX8_tells_36 : decode cX8_tells 36 = .ok (.aload_n 0, 1) := by decide +kernel
theorem dX8_tells_37 : decode cX8_tells 37 = .ok (.getfield 21, 3) := by decide +kernel
theorem dX8_tells_40 : decode cX8_tells 40 = .ok (.getfield 97, 3) := by decide +kernel
theorem dX8_tells_43 : decode cX8_tells 43 = .ok (.invokevirtual 100, 3) := by decide +kernel
theorem dX8_tells_46 : decode cX8_tells 46 = .ok (.aload_n 0, 1) := by decide +kernel
theorem dX8_tells_47 : decode cX8_tells 47 = .ok (.getfield 12, 3) := by decide +kernel
theorem dX8_tells_50 : decode cX8_tells 50 = .ok (.iconst 0, 1) := by decide +kernel
theorem dX8_tells_51 : decode cX8_tells 51 = .ok (.putfield 81, 3) := by decide +kernel
theorem dX8_tells_54 : decode cX8_tells 54 = .ok (.aload_n 0, 1) := by decide +kernel
theorem dX8_tells_55 : decode cX8_tells 55 = .ok (.getfield 21, 3) := by decide +kernel
theorem dX8_tells_58 : decode cX8_tells 58 = .ok (.getfield 103, 3) := by decide +kernel
theorem dX8_tells_61 : decode cX8_tells 61 = .ok (.ireturn, 1) := by decide +kernel
theorem dX8_fills_0 : decode cX8_fills 0 = .ok (.aload_n 0, 1) := by decide +kernel
theorem dX8_fills_1 : decode cX8_fills 1 = .ok (.getfield 28, 3) := by decide +kernel
theorem dX8_fills_4 : decode cX8_fills 4 = .ok (.iload_n 1, 1) := by decide +kernel
theorem dX8_fills_5 : decode cX8_fills 5 = .ok (.invokevirtual 106, 3) := by decide +kernel
theorem dX8_fills_8 : decode cX8_fills 8 = .ok (.ifCond .eq 17, 3) := by decide +kernel
theorem dX8_fills_11 : decode cX8_fills 11 = .ok (.iload_n 2, 1) := by decide +kernel
theorem dX8_fills_12 : decode cX8_fills 12 = .ok (.iconst 1, 1) := by decide +kernel
theorem dX8_fills_13 : decode cX8_fills 13 = .ok (.if_icmp .lt 12, 3) := by decide +kernel
theorem dX8_fills_16 : decode cX8_fills 16 = .ok (.iload_n 3, 1) := by decide +kernel
theorem dX8_fills_17 : decode cX8_fills 17 = .ok (.ifCond .lt 8, 3) := by decide +kernel
theorem dX8_fills_20 : decode cX8_fills 20 = .ok (.iload_n 3, 1) := by decide +kernel
theorem dX8_fills_21 : decode cX8_fills 21 = .ok (.iload_n 2, 1) := by decide +kernel
theorem dX8_fills_22 : decode cX8_fills 22 = .ok (.if_icmp .le 5, 3) := by decide +kernel
theorem dX8_fills_25 : decode cX8_fills 25 = .ok (.iconst (-1), 1) := by decide +kernel
theorem dX8_fills_26 : decode cX8_fills 26 = .ok (.ireturn, 1) := by decide +kernel
theorem dX8_fills_27 : decode cX8_fills 27 = .ok (.iload_n 2, 1) := by decide +kernel
theorem dX8_fills_28 : decode cX8_fills 28 = .ok (.aload_n 0, 1) := by decide +kernel
theorem dX8_fills_29 : decode cX8_fills 29 = .ok (.iload_n 1, 1) := by decide +kernel
theorem dX8_fills_30 : decode cX8_fills 30 = .ok (.invokevirtual 109, 3) := by decide +kernel
theorem dX8_fills_33 : decode cX8_fills 33 = .ok (.if_icmp .le 6, 3) := by decide +kernel
theorem dX8_fills_36 : decode cX8_fills 36 = .ok (.bipush (-3), 2) := by decide +kernel
theorem dX8_fills_38 : decode cX8_fills 38 = .ok (.ireturn, 1) := by decide +kernel
theorem dX8_fills_39 : decode cX8_fills 39 = .ok (.aload_n 0, 1) := by decide +kernel
theorem dX8_fills_40 : decode cX8_fills 40 = .ok (.getfield 35, 3) := by decide +kernel
theorem dX8_fills_43 : decode cX8_fills 43 = .ok (.aload_n 0, 1) := by decide +kernel
theorem dX8_fills_44 : decode cX8_fills 44 = .ok (.getfield 28, 3) := by decide +kernel
theorem dX8_fills_47 : decode cX8_fills 47 = .ok (.invokevirtual 93, 3) := by decide +kernel
theorem dX8_fills_50 : decode cX8_fills 50 = .ok (.aload_n 0, 1) := by decide +kernel
theorem dX8_fills_51 : decode cX8_fills 51 = .ok (.getfield 28, 3) := by decide +kernel
theorem dX8_fills_54 : decode cX8_fills 54 = .ok (.getfield 113, 3) := by decide +kernel
theorem dX8_fills_57 : decode cX8_fills 57 = .ok (.iload_n 1, 1) := by decide +kernel
theorem dX8_fills_58 : decode cX8_fills 58 = .ok (.aaload, 1) := by decide +kernel
theorem dX8_fills_59 : decode cX8_fills 59 = .ok (.iload_n 2, 1) := by decide +kernel
theorem dX8_fills_60 : decode cX8_fills 60 = .ok (.iload_n 3, 1) := by decide +kernel
theorem dX8_fills_61 : decode cX8_fills 61 = .ok (.invokevirtual 117, 3) := by decide +kernel
theorem dX8_fills_64 : decode cX8_fills 64 = .ok (.aload_n 0, 1) := by decide +kernel
theorem dX8_fills_65 : decode cX8_fills 65 = .ok (.getfield 28, 3) := by decide +kernel
theorem dX8_fills_68 : decode cX8_fills 68 = .ok (.getfield 113, 3) := by decide +kernel
theorem dX8_fills_71 : decode cX8_fills 71 = .ok (.iload_n 1, 1) := by decide +kernel
theorem dX8_fills_72 : decode cX8_fills 72 = .ok (.aaload, 1) := by decide +kernel
theorem dX8_fills_73 : decode cX8_fills 73 = .ok (.getfield 123, 3) := by decide +kernel
theorem dX8_fills_76 : decode cX8_fills 76 = .ok (.ireturn, 1) := by decide +kernel
theorem dX8_draws_0 : decode cX8_draws 0 = .ok (.aload_n 0, 1) := by decide +kernel
theorem dX8_draws_1 : decode cX8_draws 1 = .ok (.getfield 28, 3) := by decide +kernel
theorem dX8_draws_4 : decode cX8_draws 4 = .ok (.iload_n 1, 1) := by decide +kernel
theorem dX8_draws_5 : decode cX8_draws 5 = .ok (.invokevirtual 106, 3) := by decide +kernel
theorem dX8_draws_8 : decode cX8_draws 8 = .ok (.ifCond .eq 8, 3) := by decide +kernel
theorem dX8_draws_11 : decode cX8_draws 11 = .ok (.iload_n 2, 1) := by decide +kernel
theorem dX8_draws_12 : decode cX8_draws 12 = .ok (.iconst 1, 1) := by decide +kernel
theorem dX8_draws_13 : decode cX8_draws 13 = .ok (.if_icmp .ge 5, 3) := by decide +kernel
theorem dX8_draws_16 : decode cX8_draws 16 = .ok (.iconst (-1), 1) := by decide +kernel
theorem dX8_draws_17 : decode cX8_draws 17 = .ok (.ireturn, 1) := by decide +kernel
theorem dX8_draws_18 : decode cX8_draws 18 = .ok (.iload_n 2, 1) := by decide +kernel
theorem dX8_draws_19 : decode cX8_draws 19 = .ok (.aload_n 0, 1) := by decide +kernel
theorem dX8_draws_20 : decode cX8_draws 20 = .ok (.getfield 28, 3) := by decide +kernel
theorem dX8_draws_23 : decode cX8_draws 23 = .ok (.getfield 113, 3) := by decide +kernel
theorem dX8_draws_26 : decode cX8_draws 26 = .ok (.iload_n 1, 1) := by decide +kernel
theorem dX8_draws_27 : decode cX8_draws 27 = .ok (.aaload, 1) := by decide +kernel
theorem dX8_draws_28 : decode cX8_draws 28 = .ok (.getfield 123, 3) := by decide +kernel
theorem dX8_draws_31 : decode cX8_draws 31 = .ok (.if_icmp .le 6, 3) := by decide +kernel
theorem dX8_draws_34 : decode cX8_draws 34 = .ok (.bipush (-2), 2) := by decide +kernel
theorem dX8_draws_36 : decode cX8_draws 36 = .ok (.ireturn, 1) := by decide +kernel
theorem dX8_draws_37 : decode cX8_draws 37 = .ok (.aload_n 0, 1) := by decide +kernel
theorem dX8_draws_38 : decode cX8_draws 38 = .ok (.getfield 35, 3) := by decide +kernel
theorem dX8_draws_41 : decode cX8_draws 41 = .ok (.aload_n 0, 1) := by decide +kernel
theorem dX8_draws_42 : decode cX8_draws 42 = .ok (.getfield 28, 3) := by decide +kernel
theorem dX8_draws_45 : decode cX8_draws 45 = .ok (.invokevirtual 93, 3) := by decide +kernel
theorem dX8_draws_48 : decode cX8_draws 48 = .ok (.aload_n 0, 1) := by decide +kernel
theorem dX8_draws_49 : decode cX8_draws 49 = .ok (.getfield 28, 3) := by decide +kernel
theorem dX8_draws_52 : decode cX8_draws 52 = .ok (.getfield 113, 3) := by decide +kernel
theorem dX8_draws_55 : decode cX8_draws 55 = .ok (.iload_n 1, 1) := by decide +kernel
theorem dX8_draws_56 : decode cX8_draws 56 = .ok (.aaload, 1) := by decide +kernel
theorem dX8_draws_57 : decode cX8_draws 57 = .ok (.iload_n 2, 1) := by decide +kernel
theorem dX8_draws_58 : decode cX8_draws 58 = .ok (.invokevirtual 126, 3) := by decide +kernel
theorem dX8_draws_61 : decode cX8_draws 61 = .ok (.pop, 1) := by decide +kernel
theorem dX8_draws_62 : decode cX8_draws 62 = .ok (.aload_n 0, 1) := by decide +kernel
theorem dX8_draws_63 : decode cX8_draws 63 = .ok (.getfield 28, 3) := by decide +kernel
theorem dX8_draws_66 : decode cX8_draws 66 = .ok (.getfield 113, 3) := by decide +kernel
theorem dX8_draws_69 : decode cX8_draws 69 = .ok (.iload_n 1, 1) := by decide +kernel
theorem dX8_draws_70 : decode cX8_draws 70 = .ok (.aaload, 1) := by decide +kernel
theorem dX8_draws_71 : decode cX8_draws 71 = .ok (.getfield 123, 3) := by decide +kernel
theorem dX8_draws_74 : decode cX8_draws 74 = .ok (.ireturn, 1) := by decide +kernel
end
section
theorem dX8_pours_0 : decode cX8_pours 0 = .ok (.aload_n 0, 1) := by decide +kernel
theorem dX8_pours_1 : decode cX8_pours 1 = .ok (.getfield 28, 3) := by decide +kernel
theorem dX8_pours_4 : decode cX8_pours 4 = .ok (.iload_n 1, 1) := by decide +kernel
theorem dX8_pours_5 : decode cX8_pours 5 = .ok (.invokevirtual 106, 3) := by decide +kernel
theorem dX8_pours_8 : decode cX8_pours 8 = .ok (.ifCond .eq 24, 3) := by decide +kernel
theorem dX8_pours_11 : decode cX8_pours 11 = .ok (.aload_n 0, 1) := by decide +kernel
theorem dX8_pours_12 : decode cX8_pours 12 = .ok (.getfield 28, 3) := by decide +kernel
theorem dX8_pours_15 : decode cX8_pours 15 = .ok (.iload_n 2, 1) := by decide +kernel
theorem dX8_pours_16 : decode cX8_pours 16 = .ok (.invokevirtual 106, 3) := by decide +kernel
theorem dX8_pours_19 : decode cX8_pours 19 = .ok (.ifCond .eq 13, 3) := by decide +kernel
theorem dX8_pours_22 : decode cX8_pours 22 = .ok (.iload_n 1, 1) := by decide +kernel
theorem dX8_pours_23 : decode cX8_pours 23 = .ok (.iload_n 2, 1) := by decide +kernel
theorem dX8_pours_24 : decode cX8_pours 24 = .ok (.if_icmp .eq 8, 3) := by decide +kernel
theorem dX8_pours_27 : decode cX8_pours 27 = .ok (.iload_n 3, 1) := by decide +kernel
theorem dX8_pours_28 : decode cX8_pours 28 = .ok (.iconst 1, 1) := by decide +kernel
theorem dX8_pours_29 : decode cX8_pours 29 = .ok (.if_icmp .ge 5, 3) := by decide +kernel
theorem dX8_pours_32 : decode cX8_pours 32 = .ok (.iconst (-1), 1) := by decide +kernel
theorem dX8_pours_33 : decode cX8_pours 33 = .ok (.ireturn, 1) := by decide +kernel
theorem dX8_pours_34 : decode cX8_pours 34 = .ok (.iload_n 3, 1) := by decide +kernel
theorem dX8_pours_35 : decode cX8_pours 35 = .ok (.aload_n 0, 1) := by decide +kernel
theorem dX8_pours_36 : decode cX8_pours 36 = .ok (.getfield 28, 3) := by decide +kernel
theorem dX8_pours_39 : decode cX8_pours 39 = .ok (.getfield 113, 3) := by decide +kernel
theorem dX8_pours_42 : decode cX8_pours 42 = .ok (.iload_n 1, 1) := by decide +kernel
theorem dX8_pours_43 : decode cX8_pours 43 = .ok (.aaload, 1) := by decide +kernel
theorem dX8_pours_44 : decode cX8_pours 44 = .ok (.getfield 123, 3) := by decide +kernel
theorem dX8_pours_47 : decode cX8_pours 47 = .ok (.if_icmp .le 6, 3) := by decide +kernel
theorem dX8_pours_50 : decode cX8_pours 50 = .ok (.bipush (-2), 2) := by decide +kernel
theorem dX8_pours_52 : decode cX8_pours 52 = .ok (.ireturn, 1) := by decide +kernel
theorem dX8_pours_53 : decode cX8_pours 53 = .ok (.iload_n 3, 1) := by decide +kernel
theorem dX8_pours_54 : decode cX8_pours 54 = .ok (.aload_n 0, 1) := by decide +kernel
theorem dX8_pours_55 : decode cX8_pours 55 = .ok (.iload_n 2, 1) := by decide +kernel
theorem dX8_pours_56 : decode cX8_pours 56 = .ok (.invokevirtual 109, 3) := by decide +kernel
theorem dX8_pours_59 : decode cX8_pours 59 = .ok (.if_icmp .le 6, 3) := by decide +kernel
theorem dX8_pours_62 : decode cX8_pours 62 = .ok (.bipush (-3), 2) := by decide +kernel
theorem dX8_pours_64 : decode cX8_pours 64 = .ok (.ireturn, 1) := by decide +kernel
theorem dX8_pours_65 : decode cX8_pours 65 = .ok (.aload_n 0, 1) := by decide +kernel
theorem dX8_pours_66 : decode cX8_pours 66 = .ok (.getfield 35, 3) := by decide +kernel
theorem dX8_pours_69 : decode cX8_pours 69 = .ok (.aload_n 0, 1) := by decide +kernel
theorem dX8_pours_70 : decode cX8_pours 70 = .ok (.getfield 28, 3) := by decide +kernel
theorem dX8_pours_73 : decode cX8_pours 73 = .ok (.invokevirtual 93, 3) := by decide +kernel
theorem dX8_pours_76 : decode cX8_pours 76 = .ok (.aload_n 0, 1) := by decide +kernel
theorem dX8_pours_77 : decode cX8_pours 77 = .ok (.getfield 28, 3) := by decide +kernel
theorem dX8_pours_80 : decode cX8_pours 80 = .ok (.getfield 113, 3) := by decide +kernel
theorem dX8_pours_83 : decode cX8_pours 83 = .ok (.iload_n 1, 1) := by decide +kernel
theorem dX8_pours_84 : decode cX8_pours 84 = .ok (.aaload, 1) := by decide +kernel
theorem dX8_pours_85 : decode cX8_pours 85 = .ok (.iload_n 3, 1) := by decide +kernel
theorem dX8_pours_86 : decode cX8_pours 86 = .ok (.invokevirtual 126, 3) := by decide +kernel
theorem dX8_pours_89 : decode cX8_pours 89 = .ok (.istore 4, 2) := by decide +kernel
theorem dX8_pours_91 : decode cX8_pours 91 = .ok (.aload_n 0, 1) := by decide +kernel
theorem dX8_pours_92 : decode cX8_pours 92 = .ok (.getfield 28, 3) := by decide +kernel
theorem dX8_pours_95 : decode cX8_pours 95 = .ok (.getfield 113, 3) := by decide +kernel
theorem dX8_pours_98 : decode cX8_pours 98 = .ok (.iload_n 2, 1) := by decide +kernel
theorem dX8_pours_99 : decode cX8_pours 99 = .ok (.aaload, 1) := by decide +kernel
theorem dX8_pours_100 : decode cX8_pours 100 = .ok (.iload_n 3, 1) := by decide +kernel
theorem dX8_pours_101 : decode cX8_pours 101 = .ok (.iload 4, 2) := by decide +kernel
theorem dX8_pours_103 : decode cX8_pours 103 = .ok (.invokevirtual 117, 3) := by decide +kernel
theorem dX8_pours_106 : decode cX8_pours 106 = .ok (.aload_n 0, 1) := by decide +kernel
theorem dX8_pours_107 : decode cX8_pours 107 = .ok (.getfield 28, 3) := by decide +kernel
theorem dX8_pours_110 : decode cX8_pours 110 = .ok (.getfield 113, 3) := by decide +kernel
theorem dX8_pours_113 : decode cX8_pours 113 = .ok (.iload_n 2, 1) := by decide +kernel
theorem dX8_pours_114 : decode cX8_pours 114 = .ok (.aaload, 1) := by decide +kernel
theorem dX8_pours_115 : decode cX8_pours 115 = .ok (.getfield 123, 3) := by decide +kernel
theorem dX8_pours_118 : decode cX8_pours 118 = .ok (.ireturn, 1) := by decide +kernel
theorem dX8_turnsOver_0 : decode cX8_turnsOver 0 = .ok (.aload_n 0, 1) := by decide +kernel
theorem dX8_turnsOver_1 : decode cX8_turnsOver 1 = .ok (.getfield 28, 3) := by decide +kernel
theorem dX8_turnsOver_4 : decode cX8_turnsOver 4 = .ok (.iload_n 1, 1) := by decide +kernel
theorem dX8_turnsOver_5 : decode cX8_turnsOver 5 = .ok (.invokevirtual 106, 3) := by decide +kernel
theorem dX8_turnsOver_8 : decode cX8_turnsOver 8 = .ok (.ifCond .ne 5, 3) := by decide +kernel
theorem dX8_turnsOver_11 : decode cX8_turnsOver 11 = .ok (.iconst (-1), 1) := by decide +kernel
theorem dX8_turnsOver_12 : decode cX8_turnsOver 12 = .ok (.ireturn, 1) := by decide +kernel
theorem dX8_turnsOver_13 : decode cX8_turnsOver 13 = .ok (.aload_n 0, 1) := by decide +kernel
theorem dX8_turnsOver_14 : decode cX8_turnsOver 14 = .ok (.getfield 35, 3) := by decide +kernel
theorem dX8_turnsOver_17 : decode cX8_turnsOver 17 = .ok (.aload_n 0, 1) := by decide +kernel
theorem dX8_turnsOver_18 : decode cX8_turnsOver 18 = .ok (.getfield 28, 3) := by decide +kernel
theorem dX8_turnsOver_21 : decode cX8_turnsOver 21 = .ok (.invokevirtual 93, 3) := by decide +kernel
theorem dX8_turnsOver_24 : decode cX8_turnsOver 24 = .ok (.aload_n 0, 1) := by decide +kernel
theorem dX8_turnsOver_25 : decode cX8_turnsOver 25 = .ok (.getfield 28, 3) := by decide +kernel
theorem dX8_turnsOver_28 : decode cX8_turnsOver 28 = .ok (.getfield 113, 3) := by decide +kernel
theorem dX8_turnsOver_31 : decode cX8_turnsOver 31 = .ok (.iload_n 1, 1) := by decide +kernel
theorem dX8_turnsOver_32 : decode cX8_turnsOver 32 = .ok (.aaload, 1) := by decide +kernel
theorem dX8_turnsOver_33 : decode cX8_turnsOver 33 = .ok (.aload_n 0, 1) := by decide +kernel
theorem dX8_turnsOver_34 : decode cX8_turnsOver 34 = .ok (.getfield 28, 3) := by decide +kernel
theorem dX8_turnsOver_37 : decode cX8_turnsOver 37 = .ok (.getfield 113, 3) := by decide +kernel
theorem dX8_turnsOver_40 : decode cX8_turnsOver 40 = .ok (.iload_n 1, 1) := by decide +kernel
theorem dX8_turnsOver_41 : decode cX8_turnsOver 41 = .ok (.aaload, 1) := by decide +kernel
theorem dX8_turnsOver_42 : decode cX8_turnsOver 42 = .ok (.getfield 129, 3) := by decide +kernel
theorem dX8_turnsOver_45 : decode cX8_turnsOver 45 = .ok (.ifCond .ne 7, 3) := by decide +kernel
theorem dX8_turnsOver_48 : decode cX8_turnsOver 48 = .ok (.iconst 1, 1) := by decide +kernel
theorem dX8_turnsOver_49 : decode cX8_turnsOver 49 = .ok (.goto 4, 3) := by decide +kernel
theorem dX8_turnsOver_52 : decode cX8_turnsOver 52 = .ok (.iconst 0, 1) := by decide +kernel
theorem dX8_turnsOver_53 : decode cX8_turnsOver 53 = .ok (.putfield 129, 3) := by decide +kernel
theorem dX8_turnsOver_56 : decode cX8_turnsOver 56 = .ok (.aload_n 0, 1) := by decide +kernel
theorem dX8_turnsOver_57 : decode cX8_turnsOver 57 = .ok (.getfield 28, 3) := by decide +kernel
theorem dX8_turnsOver_60 : decode cX8_turnsOver 60 = .ok (.getfield 113, 3) := by decide +kernel
theorem dX8_turnsOver_63 : decode cX8_turnsOver 63 = .ok (.iload_n 1, 1) := by decide +kernel
theorem dX8_turnsOver_64 : decode cX8_turnsOver 64 = .ok (.aaload, 1) := by decide +kernel
theorem dX8_turnsOver_65 : decode cX8_turnsOver 65 = .ok (.getfield 129, 3) := by decide +kernel
theorem dX8_turnsOver_68 : decode cX8_turnsOver 68 = .ok (.ifCond .eq 7, 3) := by decide +kernel
theorem dX8_turnsOver_71 : decode cX8_turnsOver 71 = .ok (.iconst 1, 1) := by decide +kernel
theorem dX8_turnsOver_72 : decode cX8_turnsOver 72 = .ok (.goto 4, 3) := by decide +kernel
theorem dX8_turnsOver_75 : decode cX8_turnsOver 75 = .ok (.iconst 0, 1) := by decide +kernel
theorem dX8_turnsOver_76 : decode cX8_turnsOver 76 = .ok (.ireturn, 1) := by decide +kernel
theorem dX8_undo_0 : decode cX8_undo 0 = .ok (.aload_n 0, 1) := by decide +kernel
theorem dX8_undo_1 : decode cX8_undo 1 = .ok (.getfield 35, 3) := by decide +kernel
theorem dX8_undo_4 : decode cX8_undo 4 = .ok (.aload_n 0, 1) := by decide +kernel
theorem dX8_undo_5 : decode cX8_undo 5 = .ok (.getfield 28, 3) := by decide +kernel
theorem dX8_undo_8 : decode cX8_undo 8 = .ok (.invokevirtual 133, 3) := by decide +kernel
theorem dX8_undo_11 : decode cX8_undo 11 = .ok (.ifCond .eq 13, 3) := by decide +kernel
theorem dX8_undo_14 : decode cX8_undo 14 = .ok (.aload_n 0, 1) := by decide +kernel
theorem dX8_undo_15 : decode cX8_undo 15 = .ok (.getfield 35, 3) := by decide +kernel
theorem dX8_undo_18 : decode cX8_undo 18 = .ok (.getfield 137, 3) := by decide +kernel
theorem dX8_undo_21 : decode cX8_undo 21 = .ok (.goto 5, 3) := by decide +kernel
theorem dX8_undo_24 : decode cX8_undo 24 = .ok (.bipush (-2), 2) := by decide +kernel
theorem dX8_undo_26 : decode cX8_undo 26 = .ok (.ireturn, 1) := by decide +kernel
theorem dX8_cask_0 : decode cX8_cask 0 = .ok (.aload_n 0, 1) := by decide +kernel
theorem dX8_cask_1 : decode cX8_cask 1 = .ok (.getfield 28, 3) := by decide +kernel
theorem dX8_cask_4 : decode cX8_cask 4 = .ok (.iload_n 1, 1) := by decide +kernel
theorem dX8_cask_5 : decode cX8_cask 5 = .ok (.invokevirtual 106, 3) := by decide +kernel
theorem dX8_cask_8 : decode cX8_cask 8 = .ok (.ifCond .ne 5, 3) := by decide +kernel
theorem dX8_cask_11 : decode cX8_cask 11 = .ok (.iconst (-1), 1) := by decide +kernel
theorem dX8_cask_12 : decode cX8_cask 12 = .ok (.ireturn, 1) := by decide +kernel
theorem dX8_cask_13 : decode cX8_cask 13 = .ok (.aload_n 0, 1) := by decide +kernel
theorem dX8_cask_14 : decode cX8_cask 14 = .ok (.getfield 28, 3) := by decide +kernel
theorem dX8_cask_17 : decode cX8_cask 17 = .ok (.getfield 113, 3) := by decide +kernel
theorem dX8_cask_20 : decode cX8_cask 20 = .ok (.iload_n 1, 1) := by decide +kernel
theorem dX8_cask_21 : decode cX8_cask 21 = .ok (.aaload, 1) := by decide +kernel
theorem dX8_cask_22 : decode cX8_cask 22 = .ok (.astore_n 3, 1) := by decide +kernel
theorem dX8_cask_23 : decode cX8_cask 23 = .ok (.iload_n 2, 1) := by decide +kernel
theorem dX8_cask_24 : decode cX8_cask 24 = .ok (.tableswitch 132 0 8 #[52, 57, 62, 67, 80, 89, 94, 99, 112], 52) := by decide +kernel
theorem dX8_cask_76 : decode cX8_cask 76 = .ok (.aload_n 3, 1) := by decide +kernel
theorem dX8_cask_77 : decode cX8_cask 77 = .ok (.getfield 140, 3) := by decide +kernel
theorem dX8_cask_80 : decode cX8_cask 80 = .ok (.ireturn, 1) := by decide +kernel
theorem dX8_cask_81 : decode cX8_cask 81 = .ok (.aload_n 3, 1) := by decide +kernel
theorem dX8_cask_82 : decode cX8_cask 82 = .ok (.getfield 143, 3) := by decide +kernel
theorem dX8_cask_85 : decode cX8_cask 85 = .ok (.ireturn, 1) := by decide +kernel
theorem dX8_cask_86 : decode cX8_cask 86 = .ok (.aload_n 3, 1) := by decide +kernel
theorem dX8_cask_87 : decode cX8_cask 87 = .ok (.getfield 146, 3) := by decide +kernel
theorem dX8_cask_90 : decode cX8_cask 90 = .ok (.ireturn, 1) := by decide +kernel
theorem dX8_cask_91 : decode cX8_cask 91 = .ok (.aload_n 3, 1) := by decide +kernel
theorem dX8_cask_92 : decode cX8_cask 92 = .ok (.getfield 129, 3) := by decide +kernel
theorem dX8_cask_95 : decode cX8_cask 95 = .ok (.ifCond .eq 7, 3) := by decide +kernel
theorem dX8_cask_98 : decode cX8_cask 98 = .ok (.iconst 1, 1) := by decide +kernel
theorem dX8_cask_99 : decode cX8_cask 99 = .ok (.goto 4, 3) := by decide +kernel
theorem dX8_cask_102 : decode cX8_cask 102 = .ok (.iconst 0, 1) := by decide +kernel
theorem dX8_cask_103 : decode cX8_cask 103 = .ok (.ireturn, 1) := by decide +kernel
theorem dX8_cask_104 : decode cX8_cask 104 = .ok (.aload_n 0, 1) := by decide +kernel
theorem dX8_cask_105 : decode cX8_cask 105 = .ok (.iload_n 1, 1) := by decide +kernel
theorem dX8_cask_106 : decode cX8_cask 106 = .ok (.invokevirtual 149, 3) := by decide +kernel
theorem dX8_cask_109 : decode cX8_cask 109 = .ok (.invokevirtual 153, 3) := by decide +kernel
theorem dX8_cask_112 : decode cX8_cask 112 = .ok (.ireturn, 1) := by decide +kernel
theorem dX8_cask_113 : decode cX8_cask 113 = .ok (.aload_n 3, 1) := by decide +kernel
theorem dX8_cask_114 : decode cX8_cask 114 = .ok (.getfield 123, 3) := by decide +kernel
theorem dX8_cask_117 : decode cX8_cask 117 = .ok (.ireturn, 1) := by decide +kernel
theorem dX8_cask_118 : decode cX8_cask 118 = .ok (.aload_n 3, 1) := by decide +kernel
theorem dX8_cask_119 : decode cX8_cask 119 = .ok (.getfield 156, 3) := by decide +kernel
theorem dX8_cask_122 : decode cX8_cask 122 = .ok (.ireturn, 1) := by decide +kernel
theorem dX8_cask_123 : decode cX8_cask 123 = .ok (.aload_n 0, 1) := by decide +kernel
theorem dX8_cask_124 : decode cX8_cask 124 = .ok (.iload_n 1, 1) := by decide +kernel
theorem dX8_cask_125 : decode cX8_cask 125 = .ok (.invokevirtual 149, 3) := by decide +kernel
theorem dX8_cask_128 : decode cX8_cask 128 = .ok (.aload_n 3, 1) := by decide +kernel
theorem dX8_cask_129 : decode cX8_cask 129 = .ok (.getfield 123, 3) := by decide +kernel
theorem dX8_cask_132 : decode cX8_cask 132 = .ok (.invokevirtual 159, 3) := by decide +kernel
theorem dX8_cask_135 : decode cX8_cask 135 = .ok (.ireturn, 1) := by decide +kernel
theorem dX8_cask_136 : decode cX8_cask 136 = .ok (.aload_n 3, 1) := by decide +kernel
theorem dX8_cask_137 : decode cX8_cask 137 = .ok (.getfield 123, 3) := by decide +kernel
theorem dX8_cask_140 : decode cX8_cask 140 = .ok (.ifCond .le 13, 3) := by decide +kernel
theorem dX8_cask_143 : decode cX8_cask 143 = .ok (.aload_n 3, 1) := by decide +kernel
theorem dX8_cask_144 : decode cX8_cask 144 = .ok (.invokevirtual 162, 3) := by decide +kernel
theorem dX8_cask_147 : decode cX8_cask 147 = .ok (.invokestatic 166, 3) := by decide +kernel
theorem dX8_cask_150 : decode cX8_cask 150 = .ok (.goto 5, 3) := by decide +kernel
theorem dX8_cask_153 : decode cX8_cask 153 = .ok (.bipush (-9), 2) := by decide +kernel
theorem dX8_cask_155 : decode cX8_cask 155 = .ok (.ireturn, 1) := by decide +kernel
theorem dX8_cask_156 : decode cX8_cask 156 = .ok (.iconst (-1), 1) := by decide +kernel
theorem dX8_cask_157 : decode cX8_cask 157 = .ok (.ireturn, 1) := by decide +kernel
theorem dX8_slice_0 : decode cX8_slice 0 = .ok (.aload_n 0, 1) := by decide +kernel
theorem dX8_slice_1 : decode cX8_slice 1 = .ok (.getfield 28, 3) := by decide +kernel
theorem dX8_slice_4 : decode cX8_slice 4 = .ok (.iload_n 1, 1) := by decide +kernel
theorem dX8_slice_5 : decode cX8_slice 5 = .ok (.invokevirtual 106, 3) := by decide +kernel
theorem dX8_slice_8 : decode cX8_slice 8 = .ok (.ifCond .ne 5, 3) := by decide +kernel
theorem dX8_slice_11 : decode cX8_slice 11 = .ok (.iconst (-1), 1) := by decide +kernel
theorem dX8_slice_12 : decode cX8_slice 12 = .ok (.ireturn, 1) := by decide +kernel
theorem dX8_slice_13 : decode cX8_slice 13 = .ok (.aload_n 0, 1) := by decide +kernel
theorem dX8_slice_14 : decode cX8_slice 14 = .ok (.getfield 28, 3) := by decide +kernel
theorem dX8_slice_17 : decode cX8_slice 17 = .ok (.getfield 113, 3) := by decide +kernel
theorem dX8_slice_20 : decode cX8_slice 20 = .ok (.iload_n 1, 1) := by decide +kernel
theorem dX8_slice_21 : decode cX8_slice 21 = .ok (.aaload, 1) := by decide +kernel
theorem dX8_slice_22 : decode cX8_slice 22 = .ok (.astore 4, 2) := by decide +kernel
theorem dX8_slice_24 : decode cX8_slice 24 = .ok (.iload_n 2, 1) := by decide +kernel
theorem dX8_slice_25 : decode cX8_slice 25 = .ok (.ifCond .lt 28, 3) := by decide +kernel
theorem dX8_slice_28 : decode cX8_slice 28 = .ok (.iload_n 2, 1) := by decide +kernel
theorem dX8_slice_29 : decode cX8_slice 29 = .ok (.aload 4, 2) := by decide +kernel
theorem dX8_slice_31 : decode cX8_slice 31 = .ok (.getfield 140, 3) := by decide +kernel
theorem dX8_slice_34 : decode cX8_slice 34 = .ok (.if_icmp .ge 19, 3) := by decide +kernel
theorem dX8_slice_37 : decode cX8_slice 37 = .ok (.iload_n 3, 1) := by decide +kernel
theorem dX8_slice_38 : decode cX8_slice 38 = .ok (.iconst (-1), 1) := by decide +kernel
theorem dX8_slice_39 : decode cX8_slice 39 = .ok (.if_icmp .lt 14, 3) := by decide +kernel
theorem dX8_slice_42 : decode cX8_slice 42 = .ok (.iload_n 3, 1) := by decide +kernel
theorem dX8_slice_43 : decode cX8_slice 43 = .ok (.iconst 2, 1) := by decide +kernel
theorem dX8_slice_44 : decode cX8_slice 44 = .ok (.aload 4, 2) := by decide +kernel
theorem dX8_slice_46 : decode cX8_slice 46 = .ok (.getfield 146, 3) := by decide +kernel
theorem dX8_slice_49 : decode cX8_slice 49 = .ok (.imul, 1) := by decide +kernel
theorem dX8_slice_50 : decode cX8_slice 50 = .ok (.if_icmp .lt 5, 3) := by decide +kernel
theorem dX8_slice_53 : decode cX8_slice 53 = .ok (.iconst (-1), 1) := by decide +kernel
theorem dX8_slice_54 : decode cX8_slice 54 = .ok (.ireturn, 1) := by decide +kernel
theorem dX8_slice_55 : decode cX8_slice 55 = .ok (.iload_n 3, 1) := by decide +kernel
theorem dX8_slice_56 : decode cX8_slice 56 = .ok (.iconst (-1), 1) := by decide +kernel
theorem dX8_slice_57 : decode cX8_slice 57 = .ok (.if_icmp .ne 12, 3) := by decide +kernel
theorem dX8_slice_60 : decode cX8_slice 60 = .ok (.aload 4, 2) := by decide +kernel
theorem dX8_slice_62 : decode cX8_slice 62 = .ok (.iload_n 2, 1) := by decide +kernel
theorem dX8_slice_63 : decode cX8_slice 63 = .ok (.invokevirtual 170, 3) := by decide +kernel
theorem dX8_slice_66 : decode cX8_slice 66 = .ok (.goto 15, 3) := by decide +kernel
theorem dX8_slice_69 : decode cX8_slice 69 = .ok (.aload 4, 2) := by decide +kernel
theorem dX8_slice_71 : decode cX8_slice 71 = .ok (.aload 4, 2) := by decide +kernel
theorem dX8_slice_73 : decode cX8_slice 73 = .ok (.iload_n 2, 1) := by decide +kernel
theorem dX8_slice_74 : decode cX8_slice 74 = .ok (.invokevirtual 170, 3) := by decide +kernel
theorem dX8_slice_77 : decode cX8_slice 77 = .ok (.iload_n 3, 1) := by decide +kernel
theorem dX8_slice_78 : decode cX8_slice 78 = .ok (.invokevirtual 173, 3) := by decide +kernel
theorem dX8_slice_81 : decode cX8_slice 81 = .ok (.ireturn, 1) := by decide +kernel
theorem dX8_under_0 : decode cX8_under 0 = .ok (.aload_n 0, 1) := by decide +kernel
theorem dX8_under_1 : decode cX8_under 1 = .ok (.getfield 28, 3) := by decide +kernel
theorem dX8_under_4 : decode cX8_under 4 = .ok (.iload_n 1, 1) := by decide +kernel
theorem dX8_under_5 : decode cX8_under 5 = .ok (.invokevirtual 106, 3) := by decide +kernel
theorem dX8_under_8 : decode cX8_under 8 = .ok (.ifCond .ne 5, 3) := by decide +kernel
theorem dX8_under_11 : decode cX8_under 11 = .ok (.iconst (-1), 1) := by decide +kernel
theorem dX8_under_12 : decode cX8_under 12 = .ok (.ireturn, 1) := by decide +kernel
theorem dX8_under_13 : decode cX8_under 13 = .ok (.aload_n 0, 1) := by decide +kernel
theorem dX8_under_14 : decode cX8_under 14 = .ok (.iload_n 1, 1) := by decide +kernel
theorem dX8_under_15 : decode cX8_under 15 = .ok (.invokevirtual 149, 3) := by decide +kernel
theorem dX8_under_18 : decode cX8_under 18 = .ok (.astore_n 3, 1) := by decide +kernel
theorem dX8_under_19 : decode cX8_under 19 = .ok (.aload_n 3, 1) := by decide +kernel
theorem dX8_under_20 : decode cX8_under 20 = .ok (.iload_n 2, 1) := by decide +kernel
theorem dX8_under_21 : decode cX8_under 21 = .ok (.invokevirtual 177, 3) := by decide +kernel
theorem dX8_under_24 : decode cX8_under 24 = .ok (.ifCond .eq 11, 3) := by decide +kernel
theorem dX8_under_27 : decode cX8_under 27 = .ok (.aload_n 3, 1) := by decide +kernel
theorem dX8_under_28 : decode cX8_under 28 = .ok (.iload_n 2, 1) := by decide +kernel
theorem dX8_under_29 : decode cX8_under 29 = .ok (.invokevirtual 180, 3) := by decide +kernel
theorem dX8_under_32 : decode cX8_under 32 = .ok (.goto 4, 3) := by decide +kernel
theorem dX8_under_35 : decode cX8_under 35 = .ok (.iconst (-1), 1) := by decide +kernel
theorem dX8_under_36 : decode cX8_under 36 = .ok (.ireturn, 1) := by decide +kernel
theorem dX8_dip_0 : decode cX8_dip 0 = .ok (.aload_n 0, 1) := by decide +kernel
theorem dX8_dip_1 : decode cX8_dip 1 = .ok (.getfield 28, 3) := by decide +kernel
theorem dX8_dip_4 : decode cX8_dip 4 = .ok (.iload_n 1, 1) := by decide +kernel
theorem dX8_dip_5 : decode cX8_dip 5 = .ok (.invokevirtual 106, 3) := by decide +kernel
theorem dX8_dip_8 : decode cX8_dip 8 = .ok (.ifCond .eq 7, 3) := by decide +kernel
theorem dX8_dip_11 : decode cX8_dip 11 = .ok (.iload_n 2, 1) := by decide +kernel
theorem dX8_dip_12 : decode cX8_dip 12 = .ok (.ifCond .ge 5, 3) := by decide +kernel
theorem dX8_dip_15 : decode cX8_dip 15 = .ok (.iconst (-1), 1) := by decide +kernel
theorem dX8_dip_16 : decode cX8_dip 16 = .ok (.ireturn, 1) := by decide +kernel
theorem dX8_dip_17 : decode cX8_dip 17 = .ok (.aload_n 0, 1) := by decide +kernel
theorem dX8_dip_18 : decode cX8_dip 18 = .ok (.iload_n 1, 1) := by decide +kernel
theorem dX8_dip_19 : decode cX8_dip 19 = .ok (.invokevirtual 149, 3) := by decide +kernel
theorem dX8_dip_22 : decode cX8_dip 22 = .ok (.iload_n 2, 1) := by decide +kernel
theorem dX8_dip_23 : decode cX8_dip 23 = .ok (.invokevirtual 159, 3) := by decide +kernel
theorem dX8_dip_26 : decode cX8_dip 26 = .ok (.istore_n 3, 1) := by decide +kernel
theorem dX8_dip_27 : decode cX8_dip 27 = .ok (.iload_n 3, 1) := by decide +kernel
theorem dX8_dip_28 : decode cX8_dip 28 = .ok (.bipush 41, 2) := by decide +kernel
theorem dX8_dip_30 : decode cX8_dip 30 = .ok (.if_icmp .ne 7, 3) := by decide +kernel
theorem dX8_dip_33 : decode cX8_dip 33 = .ok (.iconst (-1), 1) := by decide +kernel
theorem dX8_dip_34 : decode cX8_dip 34 = .ok (.goto 4, 3) := by decide +kernel
theorem dX8_dip_37 : decode cX8_dip 37 = .ok (.iload_n 3, 1) := by decide +kernel
theorem dX8_dip_38 : decode cX8_dip 38 = .ok (.ireturn, 1) := by decide +kernel
theorem dX8_stick_0 : decode cX8_stick 0 = .ok (.aload_n 0, 1) := by decide +kernel
theorem dX8_stick_1 : decode cX8_stick 1 = .ok (.getfield 28, 3) := by decide +kernel
theorem dX8_stick_4 : decode cX8_stick 4 = .ok (.iload_n 1, 1) := by decide +kernel
theorem dX8_stick_5 : decode cX8_stick 5 = .ok (.invokevirtual 106, 3) := by decide +kernel
theorem dX8_stick_8 : decode cX8_stick 8 = .ok (.ifCond .eq 24, 3) := by decide +kernel
theorem dX8_stick_11 : decode cX8_stick 11 = .ok (.iload_n 2, 1) := by decide +kernel
theorem dX8_stick_12 : decode cX8_stick 12 = .ok (.iconst 2, 1) := by decide +kernel
theorem dX8_stick_13 : decode cX8_stick 13 = .ok (.if_icmp .lt 19, 3) := by decide +kernel
theorem dX8_stick_16 : decode cX8_stick 16 = .ok (.iload_n 2, 1) := by decide +kernel
theorem dX8_stick_17 : decode cX8_stick 17 = .ok (.bipush 9, 2) := by decide +kernel
theorem dX8_stick_19 : decode cX8_stick 19 = .ok (.if_icmp .gt 13, 3) := by decide +kernel
theorem dX8_stick_22 : decode cX8_stick 22 = .ok (.iload_n 3, 1) := by decide +kernel
theorem dX8_stick_23 : decode cX8_stick 23 = .ok (.iconst 1, 1) := by decide +kernel
theorem dX8_stick_24 : decode cX8_stick 24 = .ok (.if_icmp .lt 8, 3) := by decide +kernel
theorem dX8_stick_27 : decode cX8_stick 27 = .ok (.iload_n 3, 1) := by decide +kernel
theorem dX8_stick_28 : decode cX8_stick 28 = .ok (.iload_n 2, 1) := by decide +kernel
theorem dX8_stick_29 : decode cX8_stick 29 = .ok (.if_icmp .le 5, 3) := by decide +kernel
theorem dX8_stick_32 : decode cX8_stick 32 = .ok (.iconst (-1), 1) := by decide +kernel
theorem dX8_stick_33 : decode cX8_stick 33 = .ok (.ireturn, 1) := by decide +kernel
theorem dX8_stick_34 : decode cX8_stick 34 = .ok (.aload_n 0, 1) := by decide +kernel
theorem dX8_stick_35 : decode cX8_stick 35 = .ok (.iload_n 1, 1) := by decide +kernel
theorem dX8_stick_36 : decode cX8_stick 36 = .ok (.invokevirtual 149, 3) := by decide +kernel
theorem dX8_stick_39 : decode cX8_stick 39 = .ok (.iload_n 2, 1) := by decide +kernel
theorem dX8_stick_40 : decode cX8_stick 40 = .ok (.iload_n 3, 1) := by decide +kernel
theorem dX8_stick_41 : decode cX8_stick 41 = .ok (.invokevirtual 183, 3) := by decide +kernel
theorem dX8_stick_44 : decode cX8_stick 44 = .ok (.ireturn, 1) := by decide +kernel
theorem dX8_known_0 : decode cX8_known 0 = .ok (.aload_n 0, 1) := by decide +kernel
theorem dX8_known_1 : decode cX8_known 1 = .ok (.getfield 28, 3) := by decide +kernel
theorem dX8_known_4 : decode cX8_known 4 = .ok (.iload_n 1, 1) := by decide +kernel
theorem dX8_known_5 : decode cX8_known 5 = .ok (.invokevirtual 106, 3) := by decide +kernel
theorem dX8_known_8 : decode cX8_known 8 = .ok (.ifCond .eq 12, 3) := by decide +kernel
theorem dX8_known_11 : decode cX8_known 11 = .ok (.iload_n 3, 1) := by decide +kernel
theorem dX8_known_12 : decode cX8_known 12 = .ok (.ifCond .lt 8, 3) := by decide +kernel
theorem dX8_known_15 : decode cX8_known 15 = .ok (.iload_n 3, 1) := by decide +kernel
theorem dX8_known_16 : decode cX8_known 16 = .ok (.iconst 1, 1) := by decide +kernel
theorem dX8_known_17 : decode cX8_known 17 = .ok (.if_icmp .le 5, 3) := by decide +kernel
theorem dX8_known_20 : decode cX8_known 20 = .ok (.iconst (-1), 1) := by decide +kernel
theorem dX8_known_21 : decode cX8_known 21 = .ok (.ireturn, 1) := by decide +kernel
theorem dX8_known_22 : decode cX8_known 22 = .ok (.aload_n 0, 1) := by decide +kernel
theorem dX8_known_23 : decode cX8_known 23 = .ok (.iload_n 1, 1) := by decide +kernel
theorem dX8_known_24 : decode cX8_known 24 = .ok (.invokevirtual 149, 3) := by decide +kernel
theorem dX8_known_27 : decode cX8_known 27 = .ok (.astore 4, 2) := by decide +kernel
theorem dX8_known_29 : decode cX8_known 29 = .ok (.aload 4, 2) := by decide +kernel
theorem dX8_known_31 : decode cX8_known 31 = .ok (.iload_n 2, 1) := by decide +kernel
theorem dX8_known_32 : decode cX8_known 32 = .ok (.invokevirtual 177, 3) := by decide +kernel
theorem dX8_known_35 : decode cX8_known 35 = .ok (.ifCond .ne 5, 3) := by decide +kernel
theorem dX8_known_38 : decode cX8_known 38 = .ok (.iconst (-1), 1) := by decide +kernel
theorem dX8_known_39 : decode cX8_known 39 = .ok (.ireturn, 1) := by decide +kernel
theorem dX8_known_40 : decode cX8_known 40 = .ok (.aload 4, 2) := by decide +kernel
theorem dX8_known_42 : decode cX8_known 42 = .ok (.iload_n 2, 1) := by decide +kernel
theorem dX8_known_43 : decode cX8_known 43 = .ok (.invokevirtual 180, 3) := by decide +kernel
theorem dX8_known_46 : decode cX8_known 46 = .ok (.istore 5, 2) := by decide +kernel
theorem dX8_known_48 : decode cX8_known 48 = .ok (.iload_n 2, 1) := by decide +kernel
theorem dX8_known_49 : decode cX8_known 49 = .ok (.ifCond .ne 7, 3) := by decide +kernel
theorem dX8_known_52 : decode cX8_known 52 = .ok (.iconst 0, 1) := by decide +kernel
theorem dX8_known_53 : decode cX8_known 53 = .ok (.goto 13, 3) := by decide +kernel
theorem dX8_known_56 : decode cX8_known 56 = .ok (.aload 4, 2) := by decide +kernel
theorem dX8_known_58 : decode cX8_known 58 = .ok (.iload_n 2, 1) := by decide +kernel
theorem dX8_known_59 : decode cX8_known 59 = .ok (.iconst 1, 1) := by decide +kernel
theorem dX8_known_60 : decode cX8_known 60 = .ok (.isub, 1) := by decide +kernel
theorem dX8_known_61 : decode cX8_known 61 = .ok (.invokevirtual 180, 3) := by decide +kernel
theorem dX8_known_64 : decode cX8_known 64 = .ok (.iconst 1, 1) := by decide +kernel
theorem dX8_known_65 : decode cX8_known 65 = .ok (.iadd, 1) := by decide +kernel
theorem dX8_known_66 : decode cX8_known 66 = .ok (.istore 6, 2) := by decide +kernel
theorem dX8_known_68 : decode cX8_known 68 = .ok (.iload 6, 2) := by decide +kernel
theorem dX8_known_70 : decode cX8_known 70 = .ok (.iload 5, 2) := by decide +kernel
theorem dX8_known_72 : decode cX8_known 72 = .ok (.if_icmp .le 6, 3) := by decide +kernel
theorem dX8_known_75 : decode cX8_known 75 = .ok (.bipush (-9), 2) := by decide +kernel
theorem dX8_known_77 : decode cX8_known 77 = .ok (.ireturn, 1) := by decide +kernel
theorem dX8_known_78 : decode cX8_known 78 = .ok (.iload_n 3, 1) := by decide +kernel
theorem dX8_known_79 : decode cX8_known 79 = .ok (.ifCond .ne 8, 3) := by decide +kernel
theorem dX8_known_82 : decode cX8_known 82 = .ok (.iload 6, 2) := by decide +kernel
theorem dX8_known_84 : decode cX8_known 84 = .ok (.goto 5, 3) := by decide +kernel
theorem dX8_known_87 : decode cX8_known 87 = .ok (.iload 5, 2) := by decide +kernel
theorem dX8_known_89 : decode cX8_known 89 = .ok (.ireturn, 1) := by decide +kernel
theorem dX8_shares_0 : decode cX8_shares 0 = .ok (.aload_n 0, 1) := by decide +kernel
theorem dX8_shares_1 : decode cX8_shares 1 = .ok (.getfield 28, 3) := by decide +kernel
theorem dX8_shares_4 : decode cX8_shares 4 = .ok (.iload_n 1, 1) := by decide +kernel
theorem dX8_shares_5 : decode cX8_shares 5 = .ok (.invokevirtual 106, 3) := by decide +kernel
theorem dX8_shares_8 : decode cX8_shares 8 = .ok (.ifCond .eq 33, 3) := by decide +kernel
theorem dX8_shares_11 : decode cX8_shares 11 = .ok (.iload_n 2, 1) := by decide +kernel
theorem dX8_shares_12 : decode cX8_shares 12 = .ok (.iconst 2, 1) := by decide +kernel
theorem dX8_shares_13 : decode cX8_shares 13 = .ok (.if_icmp .lt 28, 3) := by decide +kernel
theorem dX8_shares_16 : decode cX8_shares 16 = .ok (.iload_n 2, 1) := by decide +kernel
theorem dX8_shares_17 : decode cX8_shares 17 = .ok (.iconst 3, 1) := by decide +kernel
theorem dX8_shares_18 : decode cX8_shares 18 = .ok (.if_icmp .gt 23, 3) := by decide +kernel
theorem dX8_shares_21 : decode cX8_shares 21 = .ok (.iload_n 3, 1) := by decide +kernel
theorem dX8_shares_22 : decode cX8_shares 22 = .ok (.iconst (-1), 1) := by decide +kernel
theorem dX8_shares_23 : decode cX8_shares 23 = .ok (.if_icmp .lt 18, 3) := by decide +kernel
theorem dX8_shares_26 : decode cX8_shares 26 = .ok (.iload_n 3, 1) := by decide +kernel
theorem dX8_shares_27 : decode cX8_shares 27 = .ok (.iconst 3, 1) := by decide +kernel
theorem dX8_shares_28 : decode cX8_shares 28 = .ok (.if_icmp .gt 13, 3) := by decide +kernel
theorem dX8_shares_31 : decode cX8_shares 31 = .ok (.iload_n 3, 1) := by decide +kernel
theorem dX8_shares_32 : decode cX8_shares 32 = .ok (.iconst 1, 1) := by decide +kernel
theorem dX8_shares_33 : decode cX8_shares 33 = .ok (.if_icmp .ne 10, 3) := by decide +kernel
theorem dX8_shares_36 : decode cX8_shares 36 = .ok (.iload_n 2, 1) := by decide +kernel
theorem dX8_shares_37 : decode cX8_shares 37 = .ok (.iconst 2, 1) := by decide +kernel
theorem dX8_shares_38 : decode cX8_shares 38 = .ok (.if_icmp .ne 5, 3) := by decide +kernel
theorem dX8_shares_41 : decode cX8_shares 41 = .ok (.iconst (-1), 1) := by decide +kernel
theorem dX8_shares_42 : decode cX8_shares 42 = .ok (.ireturn, 1) := by decide +kernel
theorem dX8_shares_43 : decode cX8_shares 43 = .ok (.aload_n 0, 1) := by decide +kernel
theorem dX8_shares_44 : decode cX8_shares 44 = .ok (.getfield 28, 3) := by decide +kernel
theorem dX8_shares_47 : decode cX8_shares 47 = .ok (.getfield 113, 3) := by decide +kernel
theorem dX8_shares_50 : decode cX8_shares 50 = .ok (.iload_n 1, 1) := by decide +kernel
theorem dX8_shares_51 : decode cX8_shares 51 = .ok (.aaload, 1) := by decide +kernel
theorem dX8_shares_52 : decode cX8_shares 52 = .ok (.getfield 123, 3) := by decide +kernel
theorem dX8_shares_55 : decode cX8_shares 55 = .ok (.istore 4, 2) := by decide +kernel
theorem dX8_shares_57 : decode cX8_shares 57 = .ok (.iload 4, 2) := by decide +kernel
theorem dX8_shares_59 : decode cX8_shares 59 = .ok (.ifCond .ne 6, 3) := by decide +kernel
theorem dX8_shares_62 : decode cX8_shares 62 = .ok (.bipush (-2), 2) := by decide +kernel
theorem dX8_shares_64 : decode cX8_shares 64 = .ok (.ireturn, 1) := by decide +kernel
theorem dX8_shares_65 : decode cX8_shares 65 = .ok (.aload_n 0, 1) := by decide +kernel
theorem dX8_shares_66 : decode cX8_shares 66 = .ok (.getfield 69, 3) := by decide +kernel
theorem dX8_shares_69 : decode cX8_shares 69 = .ok (.aload_n 0, 1) := by decide +kernel
theorem dX8_shares_70 : decode cX8_shares 70 = .ok (.iload_n 1, 1) := by decide +kernel
theorem dX8_shares_71 : decode cX8_shares 71 = .ok (.invokevirtual 149, 3) := by decide +kernel
theorem dX8_shares_74 : decode cX8_shares 74 = .ok (.iload 4, 2) := by decide +kernel
theorem dX8_shares_76 : decode cX8_shares 76 = .ok (.iload_n 2, 1) := by decide +kernel
theorem dX8_shares_77 : decode cX8_shares 77 = .ok (.invokevirtual 186, 3) := by decide +kernel
theorem dX8_shares_80 : decode cX8_shares 80 = .ok (.iload_n 3, 1) := by decide +kernel
theorem dX8_shares_81 : decode cX8_shares 81 = .ok (.tableswitch 63 0 3 #[31, 39, 47, 55], 31) := by decide +kernel
theorem dX8_shares_112 : decode cX8_shares 112 = .ok (.aload_n 0, 1) := by decide +kernel
theorem dX8_shares_113 : decode cX8_shares 113 = .ok (.getfield 69, 3) := by decide +kernel
theorem dX8_shares_116 : decode cX8_shares 116 = .ok (.getfield 190, 3) := by decide +kernel
theorem dX8_shares_119 : decode cX8_shares 119 = .ok (.ireturn, 1) := by decide +kernel
theorem dX8_shares_120 : decode cX8_shares 120 = .ok (.aload_n 0, 1) := by decide +kernel
theorem dX8_shares_121 : decode cX8_shares 121 = .ok (.getfield 69, 3) := by decide +kernel
theorem dX8_shares_124 : decode cX8_shares 124 = .ok (.getfield 193, 3) := by decide +kernel
theorem dX8_shares_127 : decode cX8_shares 127 = .ok (.ireturn, 1) := by decide +kernel
theorem dX8_shares_128 : decode cX8_shares 128 = .ok (.aload_n 0, 1) := by decide +kernel
theorem dX8_shares_129 : decode cX8_shares 129 = .ok (.getfield 69, 3) := by decide +kernel
theorem dX8_shares_132 : decode cX8_shares 132 = .ok (.getfield 196, 3) := by decide +kernel
theorem dX8_shares_135 : decode cX8_shares 135 = .ok (.ireturn, 1) := by decide +kernel
theorem dX8_shares_136 : decode cX8_shares 136 = .ok (.aload_n 0, 1) := by decide +kernel
theorem dX8_shares_137 : decode cX8_shares 137 = .ok (.getfield 69, 3) := by decide +kernel
theorem dX8_shares_140 : decode cX8_shares 140 = .ok (.getfield 199, 3) := by decide +kernel
theorem dX8_shares_143 : decode cX8_shares 143 = .ok (.ireturn, 1) := by decide +kernel
theorem dX8_shares_144 : decode cX8_shares 144 = .ok (.aload_n 0, 1) := by decide +kernel
theorem dX8_shares_145 : decode cX8_shares 145 = .ok (.getfield 69, 3) := by decide +kernel
theorem dX8_shares_148 : decode cX8_shares 148 = .ok (.getfield 202, 3) := by decide +kernel
theorem dX8_shares_151 : decode cX8_shares 151 = .ok (.ireturn, 1) := by decide +kernel
theorem dX8_all_0 : decode cX8_all 0 = .ok (.iload_n 1, 1) := by decide +kernel
theorem dX8_all_1 : decode cX8_all 1 = .ok (.ifCond .ne 11, 3) := by decide +kernel
theorem dX8_all_4 : decode cX8_all 4 = .ok (.aload_n 0, 1) := by decide +kernel
theorem dX8_all_5 : decode cX8_all 5 = .ok (.getfield 28, 3) := by decide +kernel
theorem dX8_all_8 : decode cX8_all 8 = .ok (.invokevirtual 205, 3) := by decide +kernel
theorem dX8_all_11 : decode cX8_all 11 = .ok (.ireturn, 1) := by decide +kernel
theorem dX8_all_12 : decode cX8_all 12 = .ok (.iload_n 1, 1) := by decide +kernel
theorem dX8_all_13 : decode cX8_all 13 = .ok (.iconst 1, 1) := by decide +kernel
theorem dX8_all_14 : decode cX8_all 14 = .ok (.if_icmp .ne 31, 3) := by decide +kernel
theorem dX8_all_17 : decode cX8_all 17 = .ok (.aload_n 0, 1) := by decide +kernel
theorem dX8_all_18 : decode cX8_all 18 = .ok (.getfield 28, 3) := by decide +kernel
theorem dX8_all_21 : decode cX8_all 21 = .ok (.invokevirtual 205, 3) := by decide +kernel
theorem dX8_all_24 : decode cX8_all 24 = .ok (.bipush (-9), 2) := by decide +kernel
theorem dX8_all_26 : decode cX8_all 26 = .ok (.if_icmp .ne 8, 3) := by decide +kernel
theorem dX8_all_29 : decode cX8_all 29 = .ok (.bipush (-9), 2) := by decide +kernel
theorem dX8_all_31 : decode cX8_all 31 = .ok (.goto 13, 3) := by decide +kernel
theorem dX8_all_34 : decode cX8_all 34 = .ok (.aload_n 0, 1) := by decide +kernel
theorem dX8_all_35 : decode cX8_all 35 = .ok (.getfield 28, 3) := by decide +kernel
theorem dX8_all_38 : decode cX8_all 38 = .ok (.invokevirtual 208, 3) := by decide +kernel
theorem dX8_all_41 : decode cX8_all 41 = .ok (.invokestatic 166, 3) := by decide +kernel
theorem dX8_all_44 : decode cX8_all 44 = .ok (.ireturn, 1) := by decide +kernel
theorem dX8_all_45 : decode cX8_all 45 = .ok (.iconst (-1), 1) := by decide +kernel
theorem dX8_all_46 : decode cX8_all 46 = .ok (.ireturn, 1) := by decide +kernel
theorem dX8_sees_0 : decode cX8_sees 0 = .ok (.iload_n 1, 1) := by decide +kernel
theorem dX8_sees_1 : decode cX8_sees 1 = .ok (.ifCond .lt 19, 3) := by decide +kernel
theorem dX8_sees_4 : decode cX8_sees 4 = .ok (.iload_n 1, 1) := by decide +kernel
theorem dX8_sees_5 : decode cX8_sees 5 = .ok (.ldc 211, 2) := by decide +kernel
theorem dX8_sees_7 : decode cX8_sees 7 = .ok (.if_icmp .gt 13, 3) := by decide +kernel
theorem dX8_sees_10 : decode cX8_sees 10 = .ok (.iload_n 2, 1) := by decide +kernel
theorem dX8_sees_11 : decode cX8_sees 11 = .ok (.ifCond .lt 9, 3) := by decide +kernel
theorem dX8_sees_14 : decode cX8_sees 14 = .ok (.iload_n 2, 1) := by decide +kernel
theorem dX8_sees_15 : decode cX8_sees 15 = .ok (.bipush 40, 2) := by decide +kernel
theorem dX8_sees_17 : decode cX8_sees 17 = .ok (.if_icmp .le 5, 3) := by decide +kernel
theorem dX8_sees_20 : decode cX8_sees 20 = .ok (.iconst (-1), 1) := by decide +kernel
theorem dX8_sees_21 : decode cX8_sees 21 = .ok (.ireturn, 1) := by decide +kernel
theorem dX8_sees_22 : decode cX8_sees 22 = .ok (.aload_n 0, 1) := by decide +kernel
theorem dX8_sees_23 : decode cX8_sees 23 = .ok (.getfield 50, 3) := by decide +kernel
theorem dX8_sees_26 : decode cX8_sees 26 = .ok (.iload_n 1, 1) := by decide +kernel
theorem dX8_sees_27 : decode cX8_sees 27 = .ok (.iload_n 2, 1) := by decide +kernel
theorem dX8_sees_28 : decode cX8_sees 28 = .ok (.invokevirtual 212, 3) := by decide +kernel
theorem dX8_sees_31 : decode cX8_sees 31 = .ok (.ifCond .eq 13, 3) := by decide +kernel
theorem dX8_sees_34 : decode cX8_sees 34 = .ok (.aload_n 0, 1) := by decide +kernel
theorem dX8_sees_35 : decode cX8_sees 35 = .ok (.getfield 50, 3) := by decide +kernel
theorem dX8_sees_38 : decode cX8_sees 38 = .ok (.getfield 215, 3) := by decide +kernel
theorem dX8_sees_41 : decode cX8_sees 41 = .ok (.goto 5, 3) := by decide +kernel
theorem dX8_sees_44 : decode cX8_sees 44 = .ok (.bipush (-3), 2) := by decide +kernel
theorem dX8_sees_46 : decode cX8_sees 46 = .ok (.ireturn, 1) := by decide +kernel
theorem dX8_forget_0 : decode cX8_forget 0 = .ok (.aload_n 0, 1) := by decide +kernel
theorem dX8_forget_1 : decode cX8_forget 1 = .ok (.getfield 50, 3) := by decide +kernel
theorem dX8_forget_4 : decode cX8_forget 4 = .ok (.getfield 215, 3) := by decide +kernel
theorem dX8_forget_7 : decode cX8_forget 7 = .ok (.istore_n 1, 1) := by decide +kernel
theorem dX8_forget_8 : decode cX8_forget 8 = .ok (.aload_n 0, 1) := by decide +kernel
theorem dX8_forget_9 : decode cX8_forget 9 = .ok (.getfield 50, 3) := by decide +kernel
theorem dX8_forget_12 : decode cX8_forget 12 = .ok (.iconst 0, 1) := by decide +kernel
theorem dX8_forget_13 : decode cX8_forget 13 = .ok (.putfield 215, 3) := by decide +kernel
theorem dX8_forget_16 : decode cX8_forget 16 = .ok (.iload_n 1, 1) := by decide +kernel
theorem dX8_forget_17 : decode cX8_forget 17 = .ok (.ireturn, 1) := by decide +kernel
theorem dX8_which_0 : decode cX8_which 0 = .ok (.iconst 0, 1) := by decide +kernel
theorem dX8_which_1 : decode cX8_which 1 = .ok (.istore_n 1, 1) := by decide +kernel
theorem dX8_which_2 : decode cX8_which 2 = .ok (.iconst 0, 1) := by decide +kernel
theorem dX8_which_3 : decode cX8_which 3 = .ok (.istore_n 2, 1) := by decide +kernel
theorem dX8_which_4 : decode cX8_which 4 = .ok (.iload_n 2, 1) := by decide +kernel
theorem dX8_which_5 : decode cX8_which 5 = .ok (.aload_n 0, 1) := by decide +kernel
theorem dX8_which_6 : decode cX8_which 6 = .ok (.getfield 28, 3) := by decide +kernel
theorem dX8_which_9 : decode cX8_which 9 = .ok (.getfield 216, 3) := by decide +kernel
theorem dX8_which_12 : decode cX8_which 12 = .ok (.if_icmp .ge 30, 3) := by decide +kernel
theorem dX8_which_15 : decode cX8_which 15 = .ok (.aload_n 0, 1) := by decide +kernel
theorem dX8_which_16 : decode cX8_which 16 = .ok (.getfield 50, 3) := by decide +kernel
theorem dX8_which_19 : decode cX8_which 19 = .ok (.aload_n 0, 1) := by decide +kernel
theorem dX8_which_20 : decode cX8_which 20 = .ok (.iload_n 2, 1) := by decide +kernel
theorem dX8_which_21 : decode cX8_which 21 = .ok (.invokevirtual 217, 3) := by decide +kernel
theorem dX8_which_24 : decode cX8_which 24 = .ok (.invokevirtual 220, 3) := by decide +kernel
theorem dX8_which_27 : decode cX8_which 27 = .ok (.ifCond .eq 9, 3) := by decide +kernel
theorem dX8_which_30 : decode cX8_which 30 = .ok (.iload_n 1, 1) := by decide +kernel
theorem dX8_which_31 : decode cX8_which 31 = .ok (.iconst 1, 1) := by decide +kernel
theorem dX8_which_32 : decode cX8_which 32 = .ok (.iload_n 2, 1) := by decide +kernel
theorem dX8_which_33 : decode cX8_which 33 = .ok (.ishl, 1) := by decide +kernel
theorem dX8_which_34 : decode cX8_which 34 = .ok (.ior, 1) := by decide +kernel
theorem dX8_which_35 : decode cX8_which 35 = .ok (.istore_n 1, 1) := by decide +kernel
theorem dX8_which_36 : decode cX8_which 36 = .ok (.iinc 2 1, 3) := by decide +kernel
theorem dX8_which_39 : decode cX8_which 39 = .ok (.goto (-35), 3) := by decide +kernel
theorem dX8_which_42 : decode cX8_which 42 = .ok (.iload_n 1, 1) := by decide +kernel
theorem dX8_which_43 : decode cX8_which 43 = .ok (.ireturn, 1) := by decide +kernel
theorem dX8_ask_0 : decode cX8_ask 0 = .ok (.aload_n 0, 1) := by decide +kernel
theorem dX8_ask_1 : decode cX8_ask 1 = .ok (.invokevirtual 224, 3) := by decide +kernel
theorem dX8_ask_4 : decode cX8_ask 4 = .ok (.istore_n 1, 1) := by decide +kernel
theorem dX8_ask_5 : decode cX8_ask 5 = .ok (.iload_n 1, 1) := by decide +kernel
theorem dX8_ask_6 : decode cX8_ask 6 = .ok (.invokestatic 227, 3) := by decide +kernel
theorem dX8_ask_9 : decode cX8_ask 9 = .ok (.iconst 1, 1) := by decide +kernel
theorem dX8_ask_10 : decode cX8_ask 10 = .ok (.if_icmp .gt 6, 3) := by decide +kernel
theorem dX8_ask_13 : decode cX8_ask 13 = .ok (.bipush (-9), 2) := by decide +kernel
theorem dX8_ask_15 : decode cX8_ask 15 = .ok (.ireturn, 1) := by decide +kernel
theorem dX8_ask_16 : decode cX8_ask 16 = .ok (.aload_n 0, 1) := by decide +kernel
theorem dX8_ask_17 : decode cX8_ask 17 = .ok (.invokevirtual 232, 3) := by decide +kernel
theorem dX8_ask_20 : decode cX8_ask 20 = .ok (.iconst 0, 1) := by decide +kernel
theorem dX8_ask_21 : decode cX8_ask 21 = .ok (.istore_n 2, 1) := by decide +kernel
theorem dX8_ask_22 : decode cX8_ask 22 = .ok (.aload_n 0, 1) := by decide +kernel
theorem dX8_ask_23 : decode cX8_ask 23 = .ok (.iload_n 1, 1) := by decide +kernel
theorem dX8_ask_24 : decode cX8_ask 24 = .ok (.invokevirtual 235, 3) := by decide +kernel
theorem dX8_ask_27 : decode cX8_ask 27 = .ok (.istore_n 3, 1) := by decide +kernel
theorem dX8_ask_28 : decode cX8_ask 28 = .ok (.iconst 1, 1) := by decide +kernel
theorem dX8_ask_29 : decode cX8_ask 29 = .ok (.istore 4, 2) := by decide +kernel
theorem dX8_ask_31 : decode cX8_ask 31 = .ok (.iload 4, 2) := by decide +kernel
theorem dX8_ask_33 : decode cX8_ask 33 = .ok (.sipush 999, 3) := by decide +kernel
theorem dX8_ask_36 : decode cX8_ask 36 = .ok (.if_icmp .gt 42, 3) := by decide +kernel
theorem dX8_ask_39 : decode cX8_ask 39 = .ok (.iload_n 3, 1) := by decide +kernel
theorem dX8_ask_40 : decode cX8_ask 40 = .ok (.iconst 1, 1) := by decide +kernel
theorem dX8_ask_41 : decode cX8_ask 41 = .ok (.if_icmp .le 37, 3) := by decide +kernel
theorem dX8_ask_44 : decode cX8_ask 44 = .ok (.aload_n 0, 1) := by decide +kernel
theorem dX8_ask_45 : decode cX8_ask 45 = .ok (.iload 4, 2) := by decide +kernel
theorem dX8_ask_47 : decode cX8_ask 47 = .ok (.invokevirtual 238, 3) := by decide +kernel
theorem dX8_ask_50 : decode cX8_ask 50 = .ok (.ifCond .eq 22, 3) := by decide +kernel
theorem dX8_ask_53 : decode cX8_ask 53 = .ok (.aload_n 0, 1) := by decide +kernel
theorem dX8_ask_54 : decode cX8_ask 54 = .ok (.iload_n 1, 1) := by decide +kernel
theorem dX8_ask_55 : decode cX8_ask 55 = .ok (.invokevirtual 235, 3) := by decide +kernel
theorem dX8_ask_58 : decode cX8_ask 58 = .ok (.istore 5, 2) := by decide +kernel
theorem dX8_ask_60 : decode cX8_ask 60 = .ok (.iload 5, 2) := by decide +kernel
theorem dX8_ask_62 : decode cX8_ask 62 = .ok (.iload_n 3, 1) := by decide +kernel
theorem dX8_ask_63 : decode cX8_ask 63 = .ok (.if_icmp .ge 9, 3) := by decide +kernel
theorem dX8_ask_66 : decode cX8_ask 66 = .ok (.iload 5, 2) := by decide +kernel
theorem dX8_ask_68 : decode cX8_ask 68 = .ok (.istore_n 3, 1) := by decide +kernel
theorem dX8_ask_69 : decode cX8_ask 69 = .ok (.iload 4, 2) := by decide +kernel
theorem dX8_ask_71 : decode cX8_ask 71 = .ok (.istore_n 2, 1) := by decide +kernel
theorem dX8_ask_72 : decode cX8_ask 72 = .ok (.iinc 4 1, 3) := by decide +kernel
theorem dX8_ask_75 : decode cX8_ask 75 = .ok (.goto (-44), 3) := by decide +kernel
theorem dX8_ask_78 : decode cX8_ask 78 = .ok (.iload_n 2, 1) := by decide +kernel
theorem dX8_ask_79 : decode cX8_ask 79 = .ok (.ireturn, 1) := by decide +kernel
theorem dX8_keep_0 : decode cX8_keep 0 = .ok (.iload_n 1, 1) := by decide +kernel
theorem dX8_keep_1 : decode cX8_keep 1 = .ok (.ifCond .lt 8, 3) := by decide +kernel
theorem dX8_keep_4 : decode cX8_keep 4 = .ok (.iload_n 1, 1) := by decide +kernel
theorem dX8_keep_5 : decode cX8_keep 5 = .ok (.iconst 2, 1) := by decide +kernel
theorem dX8_keep_6 : decode cX8_keep 6 = .ok (.if_icmp .lt 5, 3) := by decide +kernel
theorem dX8_keep_9 : decode cX8_keep 9 = .ok (.iconst (-1), 1) := by decide +kernel
theorem dX8_keep_10 : decode cX8_keep 10 = .ok (.ireturn, 1) := by decide +kernel
theorem dX8_keep_11 : decode cX8_keep 11 = .ok (.aload_n 0, 1) := by decide +kernel
theorem dX8_keep_12 : decode cX8_keep 12 = .ok (.getfield 39, 3) := by decide +kernel
theorem dX8_keep_15 : decode cX8_keep 15 = .ok (.iload_n 1, 1) := by decide +kernel
theorem dX8_keep_16 : decode cX8_keep 16 = .ok (.aaload, 1) := by decide +kernel
theorem dX8_keep_17 : decode cX8_keep 17 = .ok (.aload_n 0, 1) := by decide +kernel
theorem dX8_keep_18 : decode cX8_keep 18 = .ok (.getfield 28, 3) := by decide +kernel
theorem dX8_keep_21 : decode cX8_keep 21 = .ok (.invokevirtual 100, 3) := by decide +kernel
theorem dX8_keep_24 : decode cX8_keep 24 = .ok (.aload_n 0, 1) := by decide +kernel
theorem dX8_keep_25 : decode cX8_keep 25 = .ok (.getfield 43, 3) := by decide +kernel
theorem dX8_keep_28 : decode cX8_keep 28 = .ok (.iload_n 1, 1) := by decide +kernel
theorem dX8_keep_29 : decode cX8_keep 29 = .ok (.iconst 1, 1) := by decide +kernel
theorem dX8_keep_30 : decode cX8_keep 30 = .ok (.bastore, 1) := by decide +kernel
theorem dX8_keep_31 : decode cX8_keep 31 = .ok (.aload_n 0, 1) := by decide +kernel
theorem dX8_keep_32 : decode cX8_keep 32 = .ok (.getfield 28, 3) := by decide +kernel
theorem dX8_keep_35 : decode cX8_keep 35 = .ok (.getfield 216, 3) := by decide +kernel
theorem dX8_keep_38 : decode cX8_keep 38 = .ok (.ireturn, 1) := by decide +kernel
theorem dX8_back_0 : decode cX8_back 0 = .ok (.iload_n 1, 1) := by decide +kernel
theorem dX8_back_1 : decode cX8_back 1 = .ok (.ifCond .lt 8, 3) := by decide +kernel
theorem dX8_back_4 : decode cX8_back 4 = .ok (.iload_n 1, 1) := by decide +kernel
theorem dX8_back_5 : decode cX8_back 5 = .ok (.iconst 2, 1) := by decide +kernel
theorem dX8_back_6 : decode cX8_back 6 = .ok (.if_icmp .lt 5, 3) := by decide +kernel
theorem dX8_back_9 : decode cX8_back 9 = .ok (.iconst (-1), 1) := by decide +kernel
theorem dX8_back_10 : decode cX8_back 10 = .ok (.ireturn, 1) := by decide +kernel
theorem dX8_back_11 : decode cX8_back 11 = .ok (.aload_n 0, 1) := by decide +kernel
theorem dX8_back_12 : decode cX8_back 12 = .ok (.getfield 43, 3) := by decide +kernel
theorem dX8_back_15 : decode cX8_back 15 = .ok (.iload_n 1, 1) := by decide +kernel
theorem dX8_back_16 : decode cX8_back 16 = .ok (.baload, 1) := by decide +kernel
theorem dX8_back_17 : decode cX8_back 17 = .ok (.ifCond .ne 6, 3) := by decide +kernel
theorem dX8_back_20 : decode cX8_back 20 = .ok (.bipush (-2), 2) := by decide +kernel
theorem dX8_back_22 : decode cX8_back 22 = .ok (.ireturn, 1) := by decide +kernel
theorem dX8_back_23 : decode cX8_back 23 = .ok (.aload_n 0, 1) := by decide +kernel
theorem dX8_back_24 : decode cX8_back 24 = .ok (.getfield 28, 3) := by decide +kernel
theorem dX8_back_27 : decode cX8_back 27 = .ok (.aload_n 0, 1) := by decide +kernel
theorem dX8_back_28 : decode cX8_back 28 = .ok (.getfield 39, 3) := by decide +kernel
theorem dX8_back_31 : decode cX8_back 31 = .ok (.iload_n 1, 1) := by decide +kernel
theorem dX8_back_32 : decode cX8_back 32 = .ok (.aaload, 1) := by decide +kernel
theorem dX8_back_33 : decode cX8_back 33 = .ok (.invokevirtual 100, 3) := by decide +kernel
theorem dX8_back_36 : decode cX8_back 36 = .ok (.aload_n 0, 1) := by decide +kernel
theorem dX8_back_37 : decode cX8_back 37 = .ok (.getfield 35, 3) := by decide +kernel
theorem dX8_back_40 : decode cX8_back 40 = .ok (.iconst 0, 1) := by decide +kernel
theorem dX8_back_41 : decode cX8_back 41 = .ok (.putfield 137, 3) := by decide +kernel
theorem dX8_back_44 : decode cX8_back 44 = .ok (.aload_n 0, 1) := by decide +kernel
theorem dX8_back_45 : decode cX8_back 45 = .ok (.getfield 28, 3) := by decide +kernel
theorem dX8_back_48 : decode cX8_back 48 = .ok (.getfield 216, 3) := by decide +kernel
theorem dX8_back_51 : decode cX8_back 51 = .ok (.ireturn, 1) := by decide +kernel
theorem dX8_count_0 : decode cX8_count 0 = .ok (.iload_n 1, 1) := by decide +kernel
theorem dX8_count_1 : decode cX8_count 1 = .ok (.tableswitch 87 0 5 #[39, 47, 55, 63, 71, 79], 39) := by decide +kernel
theorem dX8_count_40 : decode cX8_count 40 = .ok (.aload_n 0, 1) := by decide +kernel
theorem dX8_count_41 : decode cX8_count 41 = .ok (.getfield 28, 3) := by decide +kernel
theorem dX8_count_44 : decode cX8_count 44 = .ok (.getfield 216, 3) := by decide +kernel
theorem dX8_count_47 : decode cX8_count 47 = .ok (.ireturn, 1) := by decide +kernel
theorem dX8_count_48 : decode cX8_count 48 = .ok (.aload_n 0, 1) := by decide +kernel
theorem dX8_count_49 : decode cX8_count 49 = .ok (.getfield 28, 3) := by decide +kernel
theorem dX8_count_52 : decode cX8_count 52 = .ok (.invokevirtual 241, 3) := by decide +kernel
theorem dX8_count_55 : decode cX8_count 55 = .ok (.ireturn, 1) := by decide +kernel
theorem dX8_count_56 : decode cX8_count 56 = .ok (.aload_n 0, 1) := by decide +kernel
theorem dX8_count_57 : decode cX8_count 57 = .ok (.getfield 28, 3) := by decide +kernel
theorem dX8_count_60 : decode cX8_count 60 = .ok (.invokevirtual 244, 3) := by decide +kernel
theorem dX8_count_63 : decode cX8_count 63 = .ok (.ireturn, 1) := by decide +kernel
theorem dX8_count_64 : decode cX8_count 64 = .ok (.aload_n 0, 1) := by decide +kernel
theorem dX8_count_65 : decode cX8_count 65 = .ok (.getfield 50, 3) := by decide +kernel
theorem dX8_count_68 : decode cX8_count 68 = .ok (.getfield 215, 3) := by decide +kernel
theorem dX8_count_71 : decode cX8_count 71 = .ok (.ireturn, 1) := by decide +kernel
theorem dX8_count_72 : decode cX8_count 72 = .ok (.aload_n 0, 1) := by decide +kernel
theorem dX8_count_73 : decode cX8_count 73 = .ok (.getfield 12, 3) := by decide +kernel
theorem dX8_count_76 : decode cX8_count 76 = .ok (.getfield 81, 3) := by decide +kernel
theorem dX8_count_79 : decode cX8_count 79 = .ok (.ireturn, 1) := by decide +kernel
theorem dX8_count_80 : decode cX8_count 80 = .ok (.aload_n 0, 1) := by decide +kernel
theorem dX8_count_81 : decode cX8_count 81 = .ok (.getfield 35, 3) := by decide +kernel
theorem dX8_count_84 : decode cX8_count 84 = .ok (.getfield 137, 3) := by decide +kernel
theorem dX8_count_87 : decode cX8_count 87 = .ok (.ireturn, 1) := by decide +kernel
theorem dX8_count_88 : decode cX8_count 88 = .ok (.iconst (-1), 1) := by decide +kernel
theorem dX8_count_89 : decode cX8_count 89 = .ok (.ireturn, 1) := by decide +kernel
theorem dX8_levelsOf_0 : decode cX8_levelsOf 0 = .ok (.aload_n 0, 1) := by decide +kernel
theorem dX8_levelsOf_1 : decode cX8_levelsOf 1 = .ok (.getfield 28, 3) := by decide +kernel
theorem dX8_levelsOf_4 : decode cX8_levelsOf 4 = .ok (.getfield 113, 3) := by decide +kernel
theorem dX8_levelsOf_7 : decode cX8_levelsOf 7 = .ok (.iload_n 1, 1) := by decide +kernel
theorem dX8_levelsOf_8 : decode cX8_levelsOf 8 = .ok (.aaload, 1) := by decide +kernel
theorem dX8_levelsOf_9 : decode cX8_levelsOf 9 = .ok (.getfield 129, 3) := by decide +kernel
theorem dX8_levelsOf_12 : decode cX8_levelsOf 12 = .ok (.ifCond .eq 9, 3) := by decide +kernel
theorem dX8_levelsOf_15 : decode cX8_levelsOf 15 = .ok (.aload_n 0, 1) := by decide +kernel
theorem dX8_levelsOf_16 : decode cX8_levelsOf 16 = .ok (.iload_n 1, 1) := by decide +kernel
theorem dX8_levelsOf_17 : decode cX8_levelsOf 17 = .ok (.invokevirtual 217, 3) := by decide +kernel
theorem dX8_levelsOf_20 : decode cX8_levelsOf 20 = .ok (.areturn, 1) := by decide +kernel
theorem dX8_levelsOf_21 : decode cX8_levelsOf 21 = .ok (.aload_n 0, 1) := by decide +kernel
theorem dX8_levelsOf_22 : decode cX8_levelsOf 22 = .ok (.getfield 60, 3) := by decide +kernel
theorem dX8_levelsOf_25 : decode cX8_levelsOf 25 = .ok (.iload_n 1, 1) := by decide +kernel
theorem dX8_levelsOf_26 : decode cX8_levelsOf 26 = .ok (.aaload, 1) := by decide +kernel
theorem dX8_levelsOf_27 : decode cX8_levelsOf 27 = .ok (.aload_n 0, 1) := by decide +kernel
theorem dX8_levelsOf_28 : decode cX8_levelsOf 28 = .ok (.getfield 28, 3) := by decide +kernel
theorem dX8_levelsOf_31 : decode cX8_levelsOf 31 = .ok (.getfield 113, 3) := by decide +kernel
theorem dX8_levelsOf_34 : decode cX8_levelsOf 34 = .ok (.iload_n 1, 1) := by decide +kernel
theorem dX8_levelsOf_35 : decode cX8_levelsOf 35 = .ok (.aaload, 1) := by decide +kernel
theorem dX8_levelsOf_36 : decode cX8_levelsOf 36 = .ok (.invokevirtual 247, 3) := by decide +kernel
theorem dX8_levelsOf_39 : decode cX8_levelsOf 39 = .ok (.aload_n 0, 1) := by decide +kernel
theorem dX8_levelsOf_40 : decode cX8_levelsOf 40 = .ok (.getfield 60, 3) := by decide +kernel
theorem dX8_levelsOf_43 : decode cX8_levelsOf 43 = .ok (.iload_n 1, 1) := by decide +kernel
theorem dX8_levelsOf_44 : decode cX8_levelsOf 44 = .ok (.aaload, 1) := by decide +kernel
theorem dX8_levelsOf_45 : decode cX8_levelsOf 45 = .ok (.areturn, 1) := by decide +kernel
theorem dX8_lyingLevelsOf_0 : decode cX8_lyingLevelsOf 0 = .ok (.aload_n 0, 1) := by decide +kernel
theorem dX8_lyingLevelsOf_1 : decode cX8_lyingLevelsOf 1 = .ok (.getfield 56, 3) := by decide +kernel
theorem dX8_lyingLevelsOf_4 : decode cX8_lyingLevelsOf 4 = .ok (.iload_n 1, 1) := by decide +kernel
theorem dX8_lyingLevelsOf_5 : decode cX8_lyingLevelsOf 5 = .ok (.aaload, 1) := by decide +kernel
theorem dX8_lyingLevelsOf_6 : decode cX8_lyingLevelsOf 6 = .ok (.aload_n 0, 1) := by decide +kernel
theorem dX8_lyingLevelsOf_7 : decode cX8_lyingLevelsOf 7 = .ok (.getfield 28, 3) := by decide +kernel
theorem dX8_lyingLevelsOf_10 : decode cX8_lyingLevelsOf 10 = .ok (.getfield 113, 3) := by decide +kernel
theorem dX8_lyingLevelsOf_13 : decode cX8_lyingLevelsOf 13 = .ok (.iload_n 1, 1) := by decide +kernel
theorem dX8_lyingLevelsOf_14 : decode cX8_lyingLevelsOf 14 = .ok (.aaload, 1) := by decide +kernel
theorem dX8_lyingLevelsOf_15 : decode cX8_lyingLevelsOf 15 = .ok (.invokevirtual 247, 3) := by decide +kernel
theorem dX8_lyingLevelsOf_18 : decode cX8_lyingLevelsOf 18 = .ok (.aload_n 0, 1) := by decide +kernel
theorem dX8_lyingLevelsOf_19 : decode cX8_lyingLevelsOf 19 = .ok (.getfield 56, 3) := by decide +kernel
theorem dX8_lyingLevelsOf_22 : decode cX8_lyingLevelsOf 22 = .ok (.iload_n 1, 1) := by decide +kernel
theorem dX8_lyingLevelsOf_23 : decode cX8_lyingLevelsOf 23 = .ok (.aaload, 1) := by decide +kernel
theorem dX8_lyingLevelsOf_24 : decode cX8_lyingLevelsOf 24 = .ok (.areturn, 1) := by decide +kernel
theorem dX8_roomIn_0 : decode cX8_roomIn 0 = .ok (.aload_n 0, 1) := by decide +kernel
theorem dX8_roomIn_1 : decode cX8_roomIn 1 = .ok (.iload_n 1, 1) := by decide +kernel
theorem dX8_roomIn_2 : decode cX8_roomIn 2 = .ok (.invokevirtual 149, 3) := by decide +kernel
theorem dX8_roomIn_5 : decode cX8_roomIn 5 = .ok (.invokevirtual 153, 3) := by decide +kernel
theorem dX8_roomIn_8 : decode cX8_roomIn 8 = .ok (.aload_n 0, 1) := by decide +kernel
theorem dX8_roomIn_9 : decode cX8_roomIn 9 = .ok (.getfield 28, 3) := by decide +kernel
theorem dX8_roomIn_12 : decode cX8_roomIn 12 = .ok (.getfield 113, 3) := by decide +kernel
theorem dX8_roomIn_15 : decode cX8_roomIn 15 = .ok (.iload_n 1, 1) := by decide +kernel
theorem dX8_roomIn_16 : decode cX8_roomIn 16 = .ok (.aaload, 1) := by decide +kernel
theorem dX8_roomIn_17 : decode cX8_roomIn 17 = .ok (.getfield 123, 3) := by decide +kernel
theorem dX8_roomIn_20 : decode cX8_roomIn 20 = .ok (.isub, 1) := by decide +kernel
theorem dX8_roomIn_21 : decode cX8_roomIn 21 = .ok (.ireturn, 1) := by decide +kernel
theorem dX8_inThousandths_0 : decode cX8_inThousandths 0 = .ok (.ldc 251, 2) := by decide +kernel
theorem dX8_inThousandths_2 : decode cX8_inThousandths 2 = .ok (.fload_n 0, 1) := by decide +kernel
theorem dX8_inThousandths_3 : decode cX8_inThousandths 3 = .ok (.fmul, 1) := by decide +kernel
theorem dX8_inThousandths_4 : decode cX8_inThousandths 4 = .ok (.f2i, 1) := by decide +kernel
theorem dX8_inThousandths_5 : decode cX8_inThousandths 5 = .ok (.ireturn, 1) := by decide +kernel
theorem dX8_startAsking_0 : decode cX8_startAsking 0 = .ok (.iconst 0, 1) := by decide +kernel
theorem dX8_startAsking_1 : decode cX8_startAsking 1 = .ok (.istore_n 1, 1) := by decide +kernel
theorem dX8_startAsking_2 : decode cX8_startAsking 2 = .ok (.iload_n 1, 1) := by decide +kernel
theorem dX8_startAsking_3 : decode cX8_startAsking 3 = .ok (.iconst 4, 1) := by decide +kernel
theorem dX8_startAsking_4 : decode cX8_startAsking 4 = .ok (.if_icmp .ge 16, 3) := by decide +kernel
theorem dX8_startAsking_7 : decode cX8_startAsking 7 = .ok (.aload_n 0, 1) := by decide +kernel
theorem dX8_startAsking_8 : decode cX8_startAsking 8 = .ok (.getfield 73, 3) := by decide +kernel
theorem dX8_startAsking_11 : decode cX8_startAsking 11 = .ok (.iload_n 1, 1) := by decide +kernel
theorem dX8_startAsking_12 : decode cX8_startAsking 12 = .ok (.iconst 0, 1) := by decide +kernel
theorem dX8_startAsking_13 : decode cX8_startAsking 13 = .ok (.iastore, 1) := by decide +kernel
theorem dX8_startAsking_14 : decode cX8_startAsking 14 = .ok (.iinc 1 1, 3) := by decide +kernel
theorem dX8_startAsking_17 : decode cX8_startAsking 17 = .ok (.goto (-15), 3) := by decide +kernel
theorem dX8_startAsking_20 : decode cX8_startAsking 20 = .ok (.return_, 1) := by decide +kernel
theorem dX8_raiseAskedDips_0 : decode cX8_raiseAskedDips 0 = .ok (.iconst 0, 1) := by decide +kernel
theorem dX8_raiseAskedDips_1 : decode cX8_raiseAskedDips 1 = .ok (.istore_n 2, 1) := by decide +kernel
theorem dX8_raiseAskedDips_2 : decode cX8_raiseAskedDips 2 = .ok (.iconst 0, 1) := by decide +kernel
theorem dX8_raiseAskedDips_3 : decode cX8_raiseAskedDips 3 = .ok (.istore_n 3, 1) := by decide +kernel
theorem dX8_raiseAskedDips_4 : decode cX8_raiseAskedDips 4 = .ok (.iload_n 3, 1) := by decide +kernel
theorem dX8_raiseAskedDips_5 : decode cX8_raiseAskedDips 5 = .ok (.aload_n 0, 1) := by decide +kernel
theorem dX8_raiseAskedDips_6 : decode cX8_raiseAskedDips 6 = .ok (.getfield 28, 3) := by decide +kernel
theorem dX8_raiseAskedDips_9 : decode cX8_raiseAskedDips 9 = .ok (.getfield 216, 3) := by decide +kernel
theorem dX8_raiseAskedDips_12 : decode cX8_raiseAskedDips 12 = .ok (.if_icmp .ge 56, 3) := by decide +kernel
theorem dX8_raiseAskedDips_15 : decode cX8_raiseAskedDips 15 = .ok (.aload_n 0, 1) := by decide +kernel
theorem dX8_raiseAskedDips_16 : decode cX8_raiseAskedDips 16 = .ok (.getfield 56, 3) := by decide +kernel
theorem dX8_raiseAskedDips_19 : decode cX8_raiseAskedDips 19 = .ok (.iload_n 3, 1) := by decide +kernel
theorem dX8_raiseAskedDips_20 : decode cX8_raiseAskedDips 20 = .ok (.aaload, 1) := by decide +kernel
theorem dX8_raiseAskedDips_21 : decode cX8_raiseAskedDips 21 = .ok (.aload_n 0, 1) := by decide +kernel
theorem dX8_raiseAskedDips_22 : decode cX8_raiseAskedDips 22 = .ok (.getfield 73, 3) := by decide +kernel
theorem dX8_raiseAskedDips_25 : decode cX8_raiseAskedDips 25 = .ok (.iload_n 3, 1) := by decide +kernel
theorem dX8_raiseAskedDips_26 : decode cX8_raiseAskedDips 26 = .ok (.iaload, 1) := by decide +kernel
theorem dX8_raiseAskedDips_27 : decode cX8_raiseAskedDips 27 = .ok (.iload_n 1, 1) := by decide +kernel
theorem dX8_raiseAskedDips_28 : decode cX8_raiseAskedDips 28 = .ok (.invokevirtual 252, 3) := by decide +kernel
theorem dX8_raiseAskedDips_31 : decode cX8_raiseAskedDips 31 = .ok (.istore 4, 2) := by decide +kernel
theorem dX8_raiseAskedDips_33 : decode cX8_raiseAskedDips 33 = .ok (.iload_n 2, 1) := by decide +kernel
theorem dX8_raiseAskedDips_34 : decode cX8_raiseAskedDips 34 = .ok (.ifCond .ne 14, 3) := by decide +kernel
theorem dX8_raiseAskedDips_37 : decode cX8_raiseAskedDips 37 = .ok (.iload 4, 2) := by decide +kernel
theorem dX8_raiseAskedDips_39 : decode cX8_raiseAskedDips 39 = .ok (.aload_n 0, 1) := by decide +kernel
theorem dX8_raiseAskedDips_40 : decode cX8_raiseAskedDips 40 = .ok (.getfield 73, 3) := by decide +kernel
theorem dX8_raiseAskedDips_43 : decode cX8_raiseAskedDips 43 = .ok (.iload_n 3, 1) := by decide +kernel
theorem dX8_raiseAskedDips_44 : decode cX8_raiseAskedDips 44 = .ok (.iaload, 1) := by decide +kernel
theorem dX8_raiseAskedDips_45 : decode cX8_raiseAskedDips 45 = .ok (.if_icmp .eq 7, 3) := by decide +kernel
theorem dX8_raiseAskedDips_48 : decode cX8_raiseAskedDips 48 = .ok (.iconst 1, 1) := by decide +kernel
theorem dX8_raiseAskedDips_49 : decode cX8_raiseAskedDips 49 = .ok (.goto 4, 3) := by decide +kernel
theorem dX8_raiseAskedDips_52 : decode cX8_raiseAskedDips 52 = .ok (.iconst 0, 1) := by decide +kernel
theorem dX8_raiseAskedDips_53 : decode cX8_raiseAskedDips 53 = .ok (.istore_n 2, 1) := by decide +kernel
theorem dX8_raiseAskedDips_54 : decode cX8_raiseAskedDips 54 = .ok (.aload_n 0, 1) := by decide +kernel
theorem dX8_raiseAskedDips_55 : decode cX8_raiseAskedDips 55 = .ok (.getfield 73, 3) := by decide +kernel
theorem dX8_raiseAskedDips_58 : decode cX8_raiseAskedDips 58 = .ok (.iload_n 3, 1) := by decide +kernel
theorem dX8_raiseAskedDips_59 : decode cX8_raiseAskedDips 59 = .ok (.iload 4, 2) := by decide +kernel
theorem dX8_raiseAskedDips_61 : decode cX8_raiseAskedDips 61 = .ok (.iastore, 1) := by decide +kernel
theorem dX8_raiseAskedDips_62 : decode cX8_raiseAskedDips 62 = .ok (.iinc 3 1, 3) := by decide +kernel
theorem dX8_raiseAskedDips_65 : decode cX8_raiseAskedDips 65 = .ok (.goto (-61), 3) := by decide +kernel
theorem dX8_raiseAskedDips_68 : decode cX8_raiseAskedDips 68 = .ok (.iload_n 2, 1) := by decide +kernel
theorem dX8_raiseAskedDips_69 : decode cX8_raiseAskedDips 69 = .ok (.ireturn, 1) := by decide +kernel
theorem dX8_mostAlike_0 : decode cX8_mostAlike 0 = .ok (.iconst 0, 1) := by decide +kernel
theorem dX8_mostAlike_1 : decode cX8_mostAlike 1 = .ok (.istore_n 2, 1) := by decide +kernel
theorem dX8_mostAlike_2 : decode cX8_mostAlike 2 = .ok (.iconst 0, 1) := by decide +kernel
theorem dX8_mostAlike_3 : decode cX8_mostAlike 3 = .ok (.istore_n 3, 1) := by decide +kernel
theorem dX8_mostAlike_4 : decode cX8_mostAlike 4 = .ok (.iload_n 3, 1) := by decide +kernel
theorem dX8_mostAlike_5 : decode cX8_mostAlike 5 = .ok (.iconst 4, 1) := by decide +kernel
theorem dX8_mostAlike_6 : decode cX8_mostAlike 6 = .ok (.if_icmp .ge 67, 3) := by decide +kernel
theorem dX8_mostAlike_9 : decode cX8_mostAlike 9 = .ok (.iconst 0, 1) := by decide +kernel
theorem dX8_mostAlike_10 : decode cX8_mostAlike 10 = .ok (.istore 4, 2) := by decide +kernel
theorem dX8_mostAlike_12 : decode cX8_mostAlike 12 = .ok (.iconst 0, 1) := by decide +kernel
theorem dX8_mostAlike_13 : decode cX8_mostAlike 13 = .ok (.istore 5, 2) := by decide +kernel
theorem dX8_mostAlike_15 : decode cX8_mostAlike 15 = .ok (.iload 5, 2) := by decide +kernel
theorem dX8_mostAlike_17 : decode cX8_mostAlike 17 = .ok (.iconst 4, 1) := by decide +kernel
theorem dX8_mostAlike_18 : decode cX8_mostAlike 18 = .ok (.if_icmp .ge 42, 3) := by decide +kernel
theorem dX8_mostAlike_21 : decode cX8_mostAlike 21 = .ok (.iload_n 1, 1) := by decide +kernel
theorem dX8_mostAlike_22 : decode cX8_mostAlike 22 = .ok (.iload_n 3, 1) := by decide +kernel
theorem dX8_mostAlike_23 : decode cX8_mostAlike 23 = .ok (.ishr, 1) := by decide +kernel
theorem dX8_mostAlike_24 : decode cX8_mostAlike 24 = .ok (.iload_n 1, 1) := by decide +kernel
theorem dX8_mostAlike_25 : decode cX8_mostAlike 25 = .ok (.iload 5, 2) := by decide +kernel
theorem dX8_mostAlike_27 : decode cX8_mostAlike 27 = .ok (.ishr, 1) := by decide +kernel
theorem dX8_mostAlike_28 : decode cX8_mostAlike 28 = .ok (.iand, 1) := by decide +kernel
theorem dX8_mostAlike_29 : decode cX8_mostAlike 29 = .ok (.iconst 1, 1) := by decide +kernel
theorem dX8_mostAlike_30 : decode cX8_mostAlike 30 = .ok (.iand, 1) := by decide +kernel
theorem dX8_mostAlike_31 : decode cX8_mostAlike 31 = .ok (.iconst 1, 1) := by decide +kernel
theorem dX8_mostAlike_32 : decode cX8_mostAlike 32 = .ok (.if_icmp .ne 22, 3) := by decide +kernel
theorem dX8_mostAlike_35 : decode cX8_mostAlike 35 = .ok (.aload_n 0, 1) := by decide +kernel
theorem dX8_mostAlike_36 : decode cX8_mostAlike 36 = .ok (.getfield 73, 3) := by decide +kernel
theorem dX8_mostAlike_39 : decode cX8_mostAlike 39 = .ok (.iload_n 3, 1) := by decide +kernel
theorem dX8_mostAlike_40 : decode cX8_mostAlike 40 = .ok (.iaload, 1) := by decide +kernel
theorem dX8_mostAlike_41 : decode cX8_mostAlike 41 = .ok (.aload_n 0, 1) := by decide +kernel
theorem dX8_mostAlike_42 : decode cX8_mostAlike 42 = .ok (.getfield 73, 3) := by decide +kernel
theorem dX8_mostAlike_45 : decode cX8_mostAlike 45 = .ok (.iload 5, 2) := by decide +kernel
theorem dX8_mostAlike_47 : decode cX8_mostAlike 47 = .ok (.iaload, 1) := by decide +kernel
theorem dX8_mostAlike_48 : decode cX8_mostAlike 48 = .ok (.if_icmp .ne 6, 3) := by decide +kernel
theorem dX8_mostAlike_51 : decode cX8_mostAlike 51 = .ok (.iinc 4 1, 3) := by decide +kernel
theorem dX8_mostAlike_54 : decode cX8_mostAlike 54 = .ok (.iinc 5 1, 3) := by decide +kernel
theorem dX8_mostAlike_57 : decode cX8_mostAlike 57 = .ok (.goto (-42), 3) := by decide +kernel
theorem dX8_mostAlike_60 : decode cX8_mostAlike 60 = .ok (.iload_n 2, 1) := by decide +kernel
theorem dX8_mostAlike_61 : decode cX8_mostAlike 61 = .ok (.iload 4, 2) := by decide +kernel
theorem dX8_mostAlike_63 : decode cX8_mostAlike 63 = .ok (.invokestatic 255, 3) := by decide +kernel
theorem dX8_mostAlike_66 : decode cX8_mostAlike 66 = .ok (.istore_n 2, 1) := by decide +kernel
theorem dX8_mostAlike_67 : decode cX8_mostAlike 67 = .ok (.iinc 3 1, 3) := by decide +kernel
theorem dX8_mostAlike_70 : decode cX8_mostAlike 70 = .ok (.goto (-66), 3) := by decide +kernel
theorem dX8_mostAlike_73 : decode cX8_mostAlike 73 = .ok (.iload_n 2, 1) := by decide +kernel
theorem dX8_mostAlike_74 : decode cX8_mostAlike 74 = .ok (.ireturn, 1) := by decide +kernel
end
section
theorem dX9_init_0 : decode cX9_init 0 = .ok (.aload_n 0, 1) := by decide +kernel
theorem dX9_init_1 : decode cX9_init 1 = .ok (.invokespecial 1, 3) := by decide +kernel
theorem dX9_init_4 : decode cX9_init 4 = .ok (.aload_n 0, 1) := by decide +kernel
theorem dX9_init_5 : decode cX9_init 5 = .ok (.bipush 25, 2) := by decide +kernel
theorem dX9_init_7 : decode cX9_init 7 = .ok (.newarray .int, 2) := by decide +kernel
theorem dX9_init_9 : decode cX9_init 9 = .ok (.putfield 7, 3) := by decide +kernel
theorem dX9_init_12 : decode cX9_init 12 = .ok (.aload_n 0, 1) := by decide +kernel
theorem dX9_init_13 : decode cX9_init 13 = .ok (.bipush 25, 2) := by decide +kernel
theorem dX9_init_15 : decode cX9_init 15 = .ok (.newarray .int, 2) := by decide +kernel
theorem dX9_init_17 : decode cX9_init 17 = .ok (.putfield 13, 3) := by decide +kernel
theorem dX9_init_20 : decode cX9_init 20 = .ok (.aload_n 0, 1) := by decide +kernel
theorem dX9_init_21 : decode cX9_init 21 = .ok (.sipush 200, 3) := by decide +kernel
theorem dX9_init_24 : decode cX9_init 24 = .ok (.newarray .int, 2) := by decide +kernel
theorem dX9_init_26 : decode cX9_init 26 = .ok (.putfield 16, 3) := by decide +kernel
theorem dX9_init_29 : decode cX9_init 29 = .ok (.aload_n 0, 1) := by decide +kernel
theorem dX9_init_30 : decode cX9_init 30 = .ok (.bipush 50, 2) := by decide +kernel
theorem dX9_init_32 : decode cX9_init 32 = .ok (.newarray .int, 2) := by decide +kernel
theorem dX9_init_34 : decode cX9_init 34 = .ok (.putfield 19, 3) := by decide +kernel
theorem dX9_init_37 : decode cX9_init 37 = .ok (.aload_n 0, 1) := by decide +kernel
theorem dX9_init_38 : decode cX9_init 38 = .ok (.iconst 2, 1) := by decide +kernel
theorem dX9_init_39 : decode cX9_init 39 = .ok (.newarray .boolean, 2) := by decide +kernel
theorem dX9_init_41 : decode cX9_init 41 = .ok (.putfield 22, 3) := by decide +kernel
theorem dX9_init_44 : decode cX9_init 44 = .ok (.aload_n 0, 1) := by decide +kernel
theorem dX9_init_45 : decode cX9_init 45 = .ok (.bipush 12, 2) := by decide +kernel
theorem dX9_init_47 : decode cX9_init 47 = .ok (.newarray .int, 2) := by decide +kernel
theorem dX9_init_49 : decode cX9_init 49 = .ok (.putfield 26, 3) := by decide +kernel
theorem dX9_init_52 : decode cX9_init 52 = .ok (.aload_n 0, 1) := by decide +kernel
theorem dX9_init_53 : decode cX9_init 53 = .ok (.bipush 60, 2) := by decide +kernel
theorem dX9_init_55 : decode cX9_init 55 = .ok (.newarray .byte, 2) := by decide +kernel
theorem dX9_init_57 : decode cX9_init 57 = .ok (.putfield 29, 3) := by decide +kernel
theorem dX9_init_60 : decode cX9_init 60 = .ok (.aload_n 0, 1) := by decide +kernel
theorem dX9_init_61 : decode cX9_init 61 = .ok (.bipush 41, 2) := by decide +kernel
theorem dX9_init_63 : decode cX9_init 63 = .ok (.newarray .int, 2) := by decide +kernel
theorem dX9_init_65 : decode cX9_init 65 = .ok (.putfield 33, 3) := by decide +kernel
theorem dX9_init_68 : decode cX9_init 68 = .ok (.aload_n 0, 1) := by decide +kernel
theorem dX9_init_69 : decode cX9_init 69 = .ok (.sipush 4000, 3) := by decide +kernel
theorem dX9_init_72 : decode cX9_init 72 = .ok (.newarray .int, 2) := by decide +kernel
theorem dX9_init_74 : decode cX9_init 74 = .ok (.putfield 36, 3) := by decide +kernel
theorem dX9_init_77 : decode cX9_init 77 = .ok (.return_, 1) := by decide +kernel
theorem dX9_in_0 : decode cX9_in 0 = .ok (.iload_n 0, 1) := by decide +kernel
theorem dX9_in_1 : decode cX9_in 1 = .ok (.iload_n 1, 1) := by decide +kernel
theorem dX9_in_2 : decode cX9_in 2 = .ok (.if_icmp .lt 12, 3) := by decide +kernel
theorem dX9_in_5 : decode cX9_in 5 = .ok (.iload_n 0, 1) := by decide +kernel
theorem dX9_in_6 : decode cX9_in 6 = .ok (.iload_n 2, 1) := by decide +kernel
theorem dX9_in_7 : decode cX9_in 7 = .ok (.if_icmp .gt 7, 3) := by decide +kernel
theorem dX9_in_10 : decode cX9_in 10 = .ok (.iconst 1, 1) := by decide +kernel
theorem dX9_in_11 : decode cX9_in 11 = .ok (.goto 4, 3) := by decide +kernel
theorem dX9_in_14 : decode cX9_in 14 = .ok (.iconst 0, 1) := by decide +kernel
theorem dX9_in_15 : decode cX9_in 15 = .ok (.ireturn, 1) := by decide +kernel
theorem dX9_type_0 : decode cX9_type 0 = .ok (.aload_n 0, 1) := by decide +kernel
theorem dX9_type_1 : decode cX9_type 1 = .ok (.iconst 0, 1) := by decide +kernel
theorem dX9_type_2 : decode cX9_type 2 = .ok (.putfield 39, 3) := by decide +kernel
theorem dX9_type_5 : decode cX9_type 5 = .ok (.iload_n 1, 1) := by decide +kernel
theorem dX9_type_6 : decode cX9_type 6 = .ok (.iconst 0, 1) := by decide +kernel
theorem dX9_type_7 : decode cX9_type 7 = .ok (.sipush 255, 3) := by decide +kernel
theorem dX9_type_10 : decode cX9_type 10 = .ok (.invokestatic 43, 3) := by decide +kernel
theorem dX9_type_13 : decode cX9_type 13 = .ok (.ifCond .ne 5, 3) := by decide +kernel
theorem dX9_type_16 : decode cX9_type 16 = .ok (.iconst (-1), 1) := by decide +kernel
theorem dX9_type_17 : decode cX9_type 17 = .ok (.ireturn, 1) := by decide +kernel
theorem dX9_type_18 : decode cX9_type 18 = .ok (.aload_n 0, 1) := by decide +kernel
theorem dX9_type_19 : decode cX9_type 19 = .ok (.getfield 47, 3) := by decide +kernel
theorem dX9_type_22 : decode cX9_type 22 = .ok (.bipush 60, 2) := by decide +kernel
theorem dX9_type_24 : decode cX9_type 24 = .ok (.if_icmp .ne 6, 3) := by decide +kernel
theorem dX9_type_27 : decode cX9_type 27 = .ok (.bipush (-3), 2) := by decide +kernel
theorem dX9_type_29 : decode cX9_type 29 = .ok (.ireturn, 1) := by decide +kernel
theorem dX9_type_30 : decode cX9_type 30 = .ok (.aload_n 0, 1) := by decide +kernel
theorem dX9_type_31 : decode cX9_type 31 = .ok (.getfield 29, 3) := by decide +kernel
theorem dX9_type_34 : decode cX9_type 34 = .ok (.aload_n 0, 1) := by decide +kernel
theorem dX9_type_35 : decode cX9_type 35 = .ok (.getfield 47, 3) := by decide +kernel
theorem dX9_type_38 : decode cX9_type 38 = .ok (.iload_n 1, 1) := by decide +kernel
theorem dX9_type_39 : decode cX9_type 39 = .ok (.i2b, 1) := by decide +kernel
theorem dX9_type_40 : decode cX9_type 40 = .ok (.bastore, 1) := by decide +kernel
theorem dX9_type_41 : decode cX9_type 41 = .ok (.aload_n 0, 1) := by decide +kernel
theorem dX9_type_42 : decode cX9_type 42 = .ok (.dup, 1) := by decide +kernel
theorem dX9_type_43 : decode cX9_type 43 = .ok (.getfield 47, 3) := by decide +kernel
theorem dX9_type_46 : decode cX9_type 46 = .ok (.iconst 1, 1) := by decide +kernel
theorem dX9_type_47 : decode cX9_type 47 = .ok (.iadd, 1) := by decide +kernel
theorem dX9_type_48 : decode cX9_type 48 = .ok (.putfield 47, 3) := by decide +kernel
theorem dX9_type_51 : decode cX9_type 51 = .ok (.aload_n 0, 1) := by decide +kernel
theorem dX9_type_52 : decode cX9_type 52 = .ok (.getfield 47, 3) := by decide +kernel
theorem dX9_type_55 : decode cX9_type 55 = .ok (.ireturn, 1) := by decide +kernel
theorem dX9_clear_0 : decode cX9_clear 0 = .ok (.aload_n 0, 1) := by decide +kernel
theorem dX9_clear_1 : decode cX9_clear 1 = .ok (.iconst 0, 1) := by decide +kernel
theorem dX9_clear_2 : decode cX9_clear 2 = .ok (.putfield 39, 3) := by decide +kernel
theorem dX9_clear_5 : decode cX9_clear 5 = .ok (.aload_n 0, 1) := by decide +kernel
theorem dX9_clear_6 : decode cX9_clear 6 = .ok (.getfield 47, 3) := by decide +kernel
theorem dX9_clear_9 : decode cX9_clear 9 = .ok (.istore_n 1, 1) := by decide +kernel
theorem dX9_clear_10 : decode cX9_clear 10 = .ok (.aload_n 0, 1) := by decide +kernel
theorem dX9_clear_11 : decode cX9_clear 11 = .ok (.iconst 0, 1) := by decide +kernel
theorem dX9_clear_12 : decode cX9_clear 12 = .ok (.putfield 47, 3) := by decide +kernel
theorem dX9_clear_15 : decode cX9_clear 15 = .ok (.iload_n 1, 1) := by decide +kernel
theorem dX9_clear_16 : decode cX9_clear 16 = .ok (.ireturn, 1) := by decide +kernel
theorem dX9_at_0 : decode cX9_at 0 = .ok (.iload_n 1, 1) := by decide +kernel
theorem dX9_at_1 : decode cX9_at 1 = .ok (.aload_n 0, 1) := by decide +kernel
theorem dX9_at_2 : decode cX9_at 2 = .ok (.getfield 47, 3) := by decide +kernel
theorem dX9_at_5 : decode cX9_at 5 = .ok (.if_icmp .ge 16, 3) := by decide +kernel
theorem dX9_at_8 : decode cX9_at 8 = .ok (.aload_n 0, 1) := by decide +kernel
theorem dX9_at_9 : decode cX9_at 9 = .ok (.getfield 29, 3) := by decide +kernel
theorem dX9_at_12 : decode cX9_at 12 = .ok (.iload_n 1, 1) := by decide +kernel
theorem dX9_at_13 : decode cX9_at 13 = .ok (.baload, 1) := by decide +kernel
theorem dX9_at_14 : decode cX9_at 14 = .ok (.sipush 255, 3) := by decide +kernel
theorem dX9_at_17 : decode cX9_at 17 = .ok (.iand, 1) := by decide +kernel
theorem dX9_at_18 : decode cX9_at 18 = .ok (.goto 4, 3) := by decide +kernel
theorem dX9_at_21 : decode cX9_at 21 = .ok (.iconst (-1), 1) := by decide +kernel
theorem dX9_at_22 : decode cX9_at 22 = .ok (.ireturn, 1) := by decide +kernel
theorem dX9_isCaskWord_0 : decode cX9_isCaskWord 0 = .ok (.aload_n 0, 1) := by decide +kernel
theorem dX9_isCaskWord_1 : decode cX9_isCaskWord 1 = .ok (.getfield 50, 3) := by decide +kernel
theorem dX9_isCaskWord_4 : decode cX9_isCaskWord 4 = .ok (.aload_n 0, 1) := by decide +kernel
theorem dX9_isCaskWord_5 : decode cX9_isCaskWord 5 = .ok (.getfield 53, 3) := by decide +kernel
theorem dX9_isCaskWord_8 : decode cX9_isCaskWord 8 = .ok (.isub, 1) := by decide +kernel
theorem dX9_isCaskWord_9 : decode cX9_isCaskWord 9 = .ok (.iconst 4, 1) := by decide +kernel
theorem dX9_isCaskWord_10 : decode cX9_isCaskWord 10 = .ok (.if_icmp .ne 65, 3) := by decide +kernel
theorem dX9_isCaskWord_13 : decode cX9_isCaskWord 13 = .ok (.aload_n 0, 1) := by decide +kernel
theorem dX9_isCaskWord_14 : decode cX9_isCaskWord 14 = .ok (.aload_n 0, 1) := by decide +kernel
theorem dX9_isCaskWord_15 : decode cX9_isCaskWord 15 = .ok (.getfield 53, 3) := by decide +kernel
theorem dX9_isCaskWord_18 : decode cX9_isCaskWord 18 = .ok (.invokevirtual 56, 3) := by decide +kernel
theorem dX9_isCaskWord_21 : decode cX9_isCaskWord 21 = .ok (.bipush 99, 2) := by decide +kernel
theorem dX9_isCaskWord_23 : decode cX9_isCaskWord 23 = .ok (.if_icmp .ne 52, 3) := by decide +kernel
theorem dX9_isCaskWord_26 : decode cX9_isCaskWord 26 = .ok (.aload_n 0, 1) := by decide +kernel
theorem dX9_isCaskWord_27 : decode cX9_isCaskWord 27 = .ok (.aload_n 0, 1) := by decide +kernel
theorem dX9_isCaskWord_28 : decode cX9_isCaskWord 28 = .ok (.getfield 53, 3) := by decide +kernel
theorem dX9_isCaskWord_31 : decode cX9_isCaskWord 31 = .ok (.iconst 1, 1) := by decide +kernel
theorem dX9_isCaskWord_32 : decode cX9_isCaskWord 32 = .ok (.iadd, 1) := by decide +kernel
theorem dX9_isCaskWord_33 : decode cX9_isCaskWord 33 = .ok (.invokevirtual 56, 3) := by decide +kernel
theorem dX9_isCaskWord_36 : decode cX9_isCaskWord 36 = .ok (.bipush 97, 2) := by decide +kernel
theorem dX9_isCaskWord_38 : decode cX9_isCaskWord 38 = .ok (.if_icmp .ne 37, 3) := by decide +kernel
theorem dX9_isCaskWord_41 : decode cX9_isCaskWord 41 = .ok (.aload_n 0, 1) := by decide +kernel
theorem dX9_isCaskWord_42 : decode cX9_isCaskWord 42 = .ok (.aload_n 0, 1) := by decide +kernel
theorem dX9_isCaskWord_43 : decode cX9_isCaskWord 43 = .ok (.getfield 53, 3) := by decide +kernel
theorem dX9_isCaskWord_46 : decode cX9_isCaskWord 46 = .ok (.iconst 2, 1) := by decide +kernel
theorem dX9_isCaskWord_47 : decode cX9_isCaskWord 47 = .ok (.iadd, 1) := by decide +kernel
theorem dX9_isCaskWord_48 : decode cX9_isCaskWord 48 = .ok (.invokevirtual 56, 3) := by decide +kernel
theorem dX9_isCaskWord_51 : decode cX9_isCaskWord 51 = .ok (.bipush 115, 2) := by decide +kernel
theorem dX9_isCaskWord_53 : decode cX9_isCaskWord 53 = .ok (.if_icmp .ne 22, 3) := by decide +kernel
theorem dX9_isCaskWord_56 : decode cX9_isCaskWord 56 = .ok (.aload_n 0, 1) := by decide +kernel
theorem dX9_isCaskWord_57 : decode cX9_isCaskWord 57 = .ok (.aload_n 0, 1) := by decide +kernel
theorem dX9_isCaskWord_58 : decode cX9_isCaskWord 58 = .ok (.getfield 53, 3) := by decide +kernel
theorem dX9_isCaskWord_61 : decode cX9_isCaskWord 61 = .ok (.iconst 3, 1) := by decide +kernel
theorem dX9_isCaskWord_62 : decode cX9_isCaskWord 62 = .ok (.iadd, 1) := by decide +kernel
theorem dX9_isCaskWord_63 : decode cX9_isCaskWord 63 = .ok (.invokevirtual 56, 3) := by decide +kernel
theorem dX9_isCaskWord_66 : decode cX9_isCaskWord 66 = .ok (.bipush 107, 2) := by decide +kernel
theorem dX9_isCaskWord_68 : decode cX9_isCaskWord 68 = .ok (.if_icmp .ne 7, 3) := by decide +kernel
theorem dX9_isCaskWord_71 : decode cX9_isCaskWord 71 = .ok (.iconst 1, 1) := by decide +kernel
theorem dX9_isCaskWord_72 : decode cX9_isCaskWord 72 = .ok (.goto 4, 3) := by decide +kernel
theorem dX9_isCaskWord_75 : decode cX9_isCaskWord 75 = .ok (.iconst 0, 1) := by decide +kernel
theorem dX9_isCaskWord_76 : decode cX9_isCaskWord 76 = .ok (.ireturn, 1) := by decide +kernel
theorem dX9_isStandsWord_0 : decode cX9_isStandsWord 0 = .ok (.aload_n 0, 1) := by decide +kernel
theorem dX9_isStandsWord_1 : decode cX9_isStandsWord 1 = .ok (.getfield 50, 3) := by decide +kernel
theorem dX9_isStandsWord_4 : decode cX9_isStandsWord 4 = .ok (.aload_n 0, 1) := by decide +kernel
theorem dX9_isStandsWord_5 : decode cX9_isStandsWord 5 = .ok (.getfield 53, 3) := by decide +kernel
theorem dX9_isStandsWord_8 : decode cX9_isStandsWord 8 = .ok (.isub, 1) := by decide +kernel
theorem dX9_isStandsWord_9 : decode cX9_isStandsWord 9 = .ok (.bipush 6, 2) := by decide +kernel
theorem dX9_isStandsWord_11 : decode cX9_isStandsWord 11 = .ok (.if_icmp .ne 95, 3) := by decide +kernel
theorem dX9_isStandsWord_14 : decode cX9_isStandsWord 14 = .ok (.aload_n 0, 1) := by decide +kernel
theorem dX9_isStandsWord_15 : decode cX9_isStandsWord 15 = .ok (.aload_n 0, 1) := by decide +kernel
theorem dX9_isStandsWord_16 : decode cX9_isStandsWord 16 = .ok (.getfield 53, 3) := by decide +kernel
theorem dX9_isStandsWord_19 : decode cX9_isStandsWord 19 = .ok (.invokevirtual 56, 3) := by decide +kernel
theorem dX9_isStandsWord_22 : decode cX9_isStandsWord 22 = .ok (.bipush 115, 2) := by decide +kernel
theorem dX9_isStandsWord_24 : decode cX9_isStandsWord 24 = .ok (.if_icmp .ne 82, 3) := by decide +kernel
theorem dX9_isStandsWord_27 : decode cX9_isStandsWord 27 = .ok (.aload_n 0, 1) := by decide +kernel
theorem dX9_isStandsWord_28 : decode cX9_isStandsWord 28 = .ok (.aload_n 0, 1) := by decide +kernel
theorem dX9_isStandsWord_29 : decode cX9_isStandsWord 29 = .ok (.getfield 53, 3) := by decide +kernel
theorem dX9_isStandsWord_32 : decode cX9_isStandsWord 32 = .ok (.iconst 1, 1) := by decide +kernel
theorem dX9_isStandsWord_33 : decode cX9_isStandsWord 33 = .ok (.iadd, 1) := by decide +kernel
theorem dX9_isStandsWord_34 : decode cX9_isStandsWord 34 = .ok (.invokevirtual 56, 3) := by decide +kernel
theorem dX9_isStandsWord_37 : decode cX9_isStandsWord 37 = .ok (.bipush 116, 2) := by decide +kernel
theorem dX9_isStandsWord_39 : decode cX9_isStandsWord 39 = .ok (.if_icmp .ne 67, 3) := by decide +kernel
theorem dX9_isStandsWord_42 : decode cX9_isStandsWord 42 = .ok (.aload_n 0, 1) := by decide +kernel
theorem dX9_isStandsWord_43 : decode cX9_isStandsWord 43 = .ok (.aload_n 0, 1) := by decide +kernel
theorem dX9_isStandsWord_44 : decode cX9_isStandsWord 44 = .ok (.getfield 53, 3) := by decide +kernel
theorem dX9_isStandsWord_47 : decode cX9_isStandsWord 47 = .ok (.iconst 2, 1) := by decide +kernel
theorem dX9_isStandsWord_48 : decode cX9_isStandsWord 48 = .ok (.iadd, 1) := by decide +kernel
theorem dX9_isStandsWord_49 : decode cX9_isStandsWord 49 = .ok (.invokevirtual 56, 3) := by decide +kernel
theorem dX9_isStandsWord_52 : decode cX9_isStandsWord 52 = .ok (.bipush 97, 2) := by decide +kernel
theorem dX9_isStandsWord_54 : decode cX9_isStandsWord 54 = .ok (.if_icmp .ne 52, 3) := by decide +kernel
theorem dX9_isStandsWord_57 : decode cX9_isStandsWord 57 = .ok (.aload_n 0, 1) := by decide +kernel
theorem dX9_isStandsWord_58 : decode cX9_isStandsWord 58 = .ok (.aload_n 0, 1) := by decide +kernel
theorem dX9_isStandsWord_59 : decode cX9_isStandsWord 59 = .ok (.getfield 53, 3) := by decide +kernel
theorem dX9_isStandsWord_62 : decode cX9_isStandsWord 62 = .ok (.iconst 3, 1) := by decide +kernel
theorem dX9_isStandsWord_63 : decode cX9_isStandsWord 63 = .ok (.iadd, 1) := by decide +kernel
theorem dX9_isStandsWord_64 : decode cX9_isStandsWord 64 = .ok (.invokevirtual 56, 3) := by decide +kernel
theorem dX9_isStandsWord_67 : decode cX9_isStandsWord 67 = .ok (.bipush 110, 2) := by decide +kernel
theorem dX9_isStandsWord_69 : decode cX9_isStandsWord 69 = .ok (.if_icmp .ne 37, 3) := by decide +kernel
theorem dX9_isStandsWord_72 : decode cX9_isStandsWord 72 = .ok (.aload_n 0, 1) := by decide +kernel
theorem dX9_isStandsWord_73 : decode cX9_isStandsWord 73 = .ok (.aload_n 0, 1) := by decide +kernel
theorem dX9_isStandsWord_74 : decode cX9_isStandsWord 74 = .ok (.getfield 53, 3) := by decide +kernel
theorem dX9_isStandsWord_77 : decode cX9_isStandsWord 77 = .ok (.iconst 4, 1) := by decide +kernel
theorem dX9_isStandsWord_78 : decode cX9_isStandsWord 78 = .ok (.iadd, 1) := by decide +kernel
theorem dX9_isStandsWord_79 : decode cX9_isStandsWord 79 = .ok (.invokevirtual 56, 3) := by decide +kernel
theorem dX9_isStandsWord_82 : decode cX9_isStandsWord 82 = .ok (.bipush 100, 2) := by decide +kernel
theorem dX9_isStandsWord_84 : decode cX9_isStandsWord 84 = .ok (.if_icmp .ne 22, 3) := by decide +kernel
theorem dX9_isStandsWord_87 : decode cX9_isStandsWord 87 = .ok (.aload_n 0, 1) := by decide +kernel
theorem dX9_isStandsWord_88 : decode cX9_isStandsWord 88 = .ok (.aload_n 0, 1) := by decide +kernel
theorem dX9_isStandsWord_89 : decode cX9_isStandsWord 89 = .ok (.getfield 53, 3) := by decide +kernel
theorem dX9_isStandsWord_92 : decode cX9_isStandsWord 92 = .ok (.iconst 5, 1) := by decide +kernel
theorem dX9_isStandsWord_93 : decode cX9_isStandsWord 93 = .ok (.iadd, 1) := by decide +kernel
theorem dX9_isStandsWord_94 : decode cX9_isStandsWord 94 = .ok (.invokevirtual 56, 3) := by decide +kernel
theorem dX9_isStandsWord_97 : decode cX9_isStandsWord 97 = .ok (.bipush 115, 2) := by decide +kernel
theorem dX9_isStandsWord_99 : decode cX9_isStandsWord 99 = .ok (.if_icmp .ne 7, 3) := by decide +kernel
theorem dX9_isStandsWord_102 : decode cX9_isStandsWord 102 = .ok (.iconst 1, 1) := by decide +kernel
theorem dX9_isStandsWord_103 : decode cX9_isStandsWord 103 = .ok (.goto 4, 3) := by decide +kernel
theorem dX9_isStandsWord_106 : decode cX9_isStandsWord 106 = .ok (.iconst 0, 1) := by decide +kernel
theorem dX9_isStandsWord_107 : decode cX9_isStandsWord 107 = .ok (.ireturn, 1) := by decide +kernel
theorem dX9_takesFigures_0 : decode cX9_takesFigures 0 = .ok (.aload_n 0, 1) := by decide +kernel
theorem dX9_takesFigures_1 : decode cX9_takesFigures 1 = .ok (.iconst 0, 1) := by decide +kernel
theorem dX9_takesFigures_2 : decode cX9_takesFigures 2 = .ok (.putfield 60, 3) := by decide +kernel
theorem dX9_takesFigures_5 : decode cX9_takesFigures 5 = .ok (.aload_n 0, 1) := by decide +kernel
theorem dX9_takesFigures_6 : decode cX9_takesFigures 6 = .ok (.aload_n 0, 1) := by decide +kernel
theorem dX9_takesFigures_7 : decode cX9_takesFigures 7 = .ok (.getfield 50, 3) := by decide +kernel
theorem dX9_takesFigures_10 : decode cX9_takesFigures 10 = .ok (.invokevirtual 56, 3) := by decide +kernel
theorem dX9_takesFigures_13 : decode cX9_takesFigures 13 = .ok (.bipush 48, 2) := by decide +kernel
theorem dX9_takesFigures_15 : decode cX9_takesFigures 15 = .ok (.bipush 57, 2) := by decide +kernel
theorem dX9_takesFigures_17 : decode cX9_takesFigures 17 = .ok (.invokestatic 43, 3) := by decide +kernel
theorem dX9_takesFigures_20 : decode cX9_takesFigures 20 = .ok (.ifCond .eq 55, 3) := by decide +kernel
theorem dX9_takesFigures_23 : decode cX9_takesFigures 23 = .ok (.aload_n 0, 1) := by decide +kernel
theorem dX9_takesFigures_24 : decode cX9_takesFigures 24 = .ok (.aload_n 0, 1) := by decide +kernel
theorem dX9_takesFigures_25 : decode cX9_takesFigures 25 = .ok (.getfield 60, 3) := by decide +kernel
theorem dX9_takesFigures_28 : decode cX9_takesFigures 28 = .ok (.bipush 99, 2) := by decide +kernel
theorem dX9_takesFigures_30 : decode cX9_takesFigures 30 = .ok (.if_icmp .le 10, 3) := by decide +kernel
theorem dX9_takesFigures_33 : decode cX9_takesFigures 33 = .ok (.aload_n 0, 1) := by decide +kernel
theorem dX9_takesFigures_34 : decode cX9_takesFigures 34 = .ok (.getfield 60, 3) := by decide +kernel
theorem dX9_takesFigures_37 : decode cX9_takesFigures 37 = .ok (.goto 22, 3) := by decide +kernel
theorem dX9_takesFigures_40 : decode cX9_takesFigures 40 = .ok (.bipush 10, 2) := by decide +kernel
theorem dX9_takesFigures_42 : decode cX9_takesFigures 42 = .ok (.aload_n 0, 1) := by decide +kernel
theorem dX9_takesFigures_43 : decode cX9_takesFigures 43 = .ok (.getfield 60, 3) := by decide +kernel
theorem dX9_takesFigures_46 : decode cX9_takesFigures 46 = .ok (.imul, 1) := by decide +kernel
theorem dX9_takesFigures_47 : decode cX9_takesFigures 47 = .ok (.aload_n 0, 1) := by decide +kernel
theorem dX9_takesFigures_48 : decode cX9_takesFigures 48 = .ok (.aload_n 0, 1) := by decide +kernel
theorem dX9_takesFigures_49 : decode cX9_takesFigures 49 = .ok (.getfield 50, 3) := by decide +kernel
theorem dX9_takesFigures_52 : decode cX9_takesFigures 52 = .ok (.invokevirtual 56, 3) := by decide +kernel
theorem dX9_takesFigures_55 : decode cX9_takesFigures 55 = .ok (.iadd, 1) := by decide +kernel
theorem dX9_takesFigures_56 : decode cX9_takesFigures 56 = .ok (.bipush 48, 2) := by decide +kernel
theorem dX9_takesFigures_58 : decode cX9_takesFigures 58 = .ok (.isub, 1) := by decide +kernel
theorem dX9_takesFigures_59 : decode cX9_takesFigures 59 = .ok (.putfield 60, 3) := by decide +kernel
theorem dX9_takesFigures_62 : decode cX9_takesFigures 62 = .ok (.aload_n 0, 1) := by decide +kernel
theorem dX9_takesFigures_63 : decode cX9_takesFigures 63 = .ok (.dup, 1) := by decide +kernel
theorem dX9_takesFigures_64 : decode cX9_takesFigures 64 = .ok (.getfield 50, 3) := by decide +kernel
theorem dX9_takesFigures_67 : decode cX9_takesFigures 67 = .ok (.iconst 1, 1) := by decide +kernel
theorem dX9_takesFigures_68 : decode cX9_takesFigures 68 = .ok (.iadd, 1) := by decide +kernel
theorem dX9_takesFigures_69 : decode cX9_takesFigures 69 = .ok (.putfield 50, 3) := by decide +kernel
theorem dX9_takesFigures_72 : decode cX9_takesFigures 72 = .ok (.goto (-67), 3) := by decide +kernel
theorem dX9_takesFigures_75 : decode cX9_takesFigures 75 = .ok (.aload_n 0, 1) := by decide +kernel
theorem dX9_takesFigures_76 : decode cX9_takesFigures 76 = .ok (.aload_n 0, 1) := by decide +kernel
theorem dX9_takesFigures_77 : decode cX9_takesFigures 77 = .ok (.getfield 50, 3) := by decide +kernel
theorem dX9_takesFigures_80 : decode cX9_takesFigures 80 = .ok (.aload_n 0, 1) := by decide +kernel
theorem dX9_takesFigures_81 : decode cX9_takesFigures 81 = .ok (.getfield 53, 3) := by decide +kernel
theorem dX9_takesFigures_84 : decode cX9_takesFigures 84 = .ok (.isub, 1) := by decide +kernel
theorem dX9_takesFigures_85 : decode cX9_takesFigures 85 = .ok (.iconst 2, 1) := by decide +kernel
theorem dX9_takesFigures_86 : decode cX9_takesFigures 86 = .ok (.if_icmp .gt 29, 3) := by decide +kernel
theorem dX9_takesFigures_89 : decode cX9_takesFigures 89 = .ok (.aload_n 0, 1) := by decide +kernel
theorem dX9_takesFigures_90 : decode cX9_takesFigures 90 = .ok (.getfield 50, 3) := by decide +kernel
theorem dX9_takesFigures_93 : decode cX9_takesFigures 93 = .ok (.aload_n 0, 1) := by decide +kernel
theorem dX9_takesFigures_94 : decode cX9_takesFigures 94 = .ok (.getfield 53, 3) := by decide +kernel
theorem dX9_takesFigures_97 : decode cX9_takesFigures 97 = .ok (.isub, 1) := by decide +kernel
theorem dX9_takesFigures_98 : decode cX9_takesFigures 98 = .ok (.iconst 2, 1) := by decide +kernel
theorem dX9_takesFigures_99 : decode cX9_takesFigures 99 = .ok (.if_icmp .ne 20, 3) := by decide +kernel
theorem dX9_takesFigures_102 : decode cX9_takesFigures 102 = .ok (.aload_n 0, 1) := by decide +kernel
theorem dX9_takesFigures_103 : decode cX9_takesFigures 103 = .ok (.aload_n 0, 1) := by decide +kernel
theorem dX9_takesFigures_104 : decode cX9_takesFigures 104 = .ok (.getfield 53, 3) := by decide +kernel
theorem dX9_takesFigures_107 : decode cX9_takesFigures 107 = .ok (.invokevirtual 56, 3) := by decide +kernel
theorem dX9_takesFigures_110 : decode cX9_takesFigures 110 = .ok (.bipush 48, 2) := by decide +kernel
theorem dX9_takesFigures_112 : decode cX9_takesFigures 112 = .ok (.if_icmp .ne 7, 3) := by decide +kernel
theorem dX9_takesFigures_115 : decode cX9_takesFigures 115 = .ok (.iconst 5, 1) := by decide +kernel
theorem dX9_takesFigures_116 : decode cX9_takesFigures 116 = .ok (.goto 4, 3) := by decide +kernel
theorem dX9_takesFigures_119 : decode cX9_takesFigures 119 = .ok (.iconst 3, 1) := by decide +kernel
theorem dX9_takesFigures_120 : decode cX9_takesFigures 120 = .ok (.putfield 63, 3) := by decide +kernel
theorem dX9_takesFigures_123 : decode cX9_takesFigures 123 = .ok (.return_, 1) := by decide +kernel
theorem dX9_steps_0 : decode cX9_steps 0 = .ok (.aload_n 0, 1) := by decide +kernel
theorem dX9_steps_1 : decode cX9_steps 1 = .ok (.aload_n 0, 1) := by decide +kernel
theorem dX9_steps_2 : decode cX9_steps 2 = .ok (.getfield 50, 3) := by decide +kernel
theorem dX9_steps_5 : decode cX9_steps 5 = .ok (.putfield 53, 3) := by decide +kernel
theorem dX9_steps_8 : decode cX9_steps 8 = .ok (.aload_n 0, 1) := by decide +kernel
theorem dX9_steps_9 : decode cX9_steps 9 = .ok (.aload_n 0, 1) := by decide +kernel
theorem dX9_steps_10 : decode cX9_steps 10 = .ok (.getfield 53, 3) := by decide +kernel
theorem dX9_steps_13 : decode cX9_steps 13 = .ok (.invokevirtual 56, 3) := by decide +kernel
theorem dX9_steps_16 : decode cX9_steps 16 = .ok (.bipush 32, 2) := by decide +kernel
theorem dX9_steps_18 : decode cX9_steps 18 = .ok (.if_icmp .ne 16, 3) := by decide +kernel
theorem dX9_steps_21 : decode cX9_steps 21 = .ok (.aload_n 0, 1) := by decide +kernel
theorem dX9_steps_22 : decode cX9_steps 22 = .ok (.dup, 1) := by decide +kernel
theorem dX9_steps_23 : decode cX9_steps 23 = .ok (.getfield 53, 3) := by decide +kernel
theorem dX9_steps_26 : decode cX9_steps 26 = .ok (.iconst 1, 1) := by decide +kernel
theorem dX9_steps_27 : decode cX9_steps 27 = .ok (.iadd, 1) := by decide +kernel
theorem dX9_steps_28 : decode cX9_steps 28 = .ok (.putfield 53, 3) := by decide +kernel
theorem dX9_steps_31 : decode cX9_steps 31 = .ok (.goto (-23), 3) := by decide +kernel
theorem dX9_steps_34 : decode cX9_steps 34 = .ok (.aload_n 0, 1) := by decide +kernel
theorem dX9_steps_35 : decode cX9_steps 35 = .ok (.aload_n 0, 1) := by decide +kernel
theorem dX9_steps_36 : decode cX9_steps 36 = .ok (.getfield 53, 3) := by decide +kernel
theorem dX9_steps_39 : decode cX9_steps 39 = .ok (.putfield 50, 3) := by decide +kernel
theorem dX9_steps_42 : decode cX9_steps 42 = .ok (.aload_n 0, 1) := by decide +kernel
theorem dX9_steps_43 : decode cX9_steps 43 = .ok (.aload_n 0, 1) := by decide +kernel
theorem dX9_steps_44 : decode cX9_steps 44 = .ok (.getfield 50, 3) := by decide +kernel
theorem dX9_steps_47 : decode cX9_steps 47 = .ok (.invokevirtual 56, 3) := by decide +kernel
theorem dX9_steps_50 : decode cX9_steps 50 = .ok (.ifCond .ge 11, 3) := by decide +kernel
theorem dX9_steps_53 : decode cX9_steps 53 = .ok (.aload_n 0, 1) := by decide +kernel
theorem dX9_steps_54 : decode cX9_steps 54 = .ok (.iconst 0, 1) := by decide +kernel
theorem dX9_steps_55 : decode cX9_steps 55 = .ok (.putfield 63, 3) := by decide +kernel
theorem dX9_steps_58 : decode cX9_steps 58 = .ok (.goto 139, 3) := by decide +kernel
theorem dX9_steps_61 : decode cX9_steps 61 = .ok (.aload_n 0, 1) := by decide +kernel
theorem dX9_steps_62 : decode cX9_steps 62 = .ok (.aload_n 0, 1) := by decide +kernel
theorem dX9_steps_63 : decode cX9_steps 63 = .ok (.getfield 50, 3) := by decide +kernel
theorem dX9_steps_66 : decode cX9_steps 66 = .ok (.invokevirtual 56, 3) := by decide +kernel
theorem dX9_steps_69 : decode cX9_steps 69 = .ok (.bipush 48, 2) := by decide +kernel
theorem dX9_steps_71 : decode cX9_steps 71 = .ok (.bipush 57, 2) := by decide +kernel
theorem dX9_steps_73 : decode cX9_steps 73 = .ok (.invokestatic 43, 3) := by decide +kernel
theorem dX9_steps_76 : decode cX9_steps 76 = .ok (.ifCond .eq 10, 3) := by decide +kernel
theorem dX9_steps_79 : decode cX9_steps 79 = .ok (.aload_n 0, 1) := by decide +kernel
theorem dX9_steps_80 : decode cX9_steps 80 = .ok (.invokevirtual 66, 3) := by decide +kernel
theorem dX9_steps_83 : decode cX9_steps 83 = .ok (.goto 114, 3) := by decide +kernel
theorem dX9_steps_86 : decode cX9_steps 86 = .ok (.aload_n 0, 1) := by decide +kernel
theorem dX9_steps_87 : decode cX9_steps 87 = .ok (.aload_n 0, 1) := by decide +kernel
theorem dX9_steps_88 : decode cX9_steps 88 = .ok (.getfield 50, 3) := by decide +kernel
theorem dX9_steps_91 : decode cX9_steps 91 = .ok (.invokevirtual 56, 3) := by decide +kernel
theorem dX9_steps_94 : decode cX9_steps 94 = .ok (.bipush 97, 2) := by decide +kernel
theorem dX9_steps_96 : decode cX9_steps 96 = .ok (.bipush 122, 2) := by decide +kernel
theorem dX9_steps_98 : decode cX9_steps 98 = .ok (.invokestatic 43, 3) := by decide +kernel
theorem dX9_steps_101 : decode cX9_steps 101 = .ok (.ifCond .eq 64, 3) := by decide +kernel
theorem dX9_steps_104 : decode cX9_steps 104 = .ok (.aload_n 0, 1) := by decide +kernel
theorem dX9_steps_105 : decode cX9_steps 105 = .ok (.aload_n 0, 1) := by decide +kernel
theorem dX9_steps_106 : decode cX9_steps 106 = .ok (.getfield 50, 3) := by decide +kernel
theorem dX9_steps_109 : decode cX9_steps 109 = .ok (.invokevirtual 56, 3) := by decide +kernel
theorem dX9_steps_112 : decode cX9_steps 112 = .ok (.bipush 97, 2) := by decide +kernel
theorem dX9_steps_114 : decode cX9_steps 114 = .ok (.bipush 122, 2) := by decide +kernel
theorem dX9_steps_116 : decode cX9_steps 116 = .ok (.invokestatic 43, 3) := by decide +kernel
theorem dX9_steps_119 : decode cX9_steps 119 = .ok (.ifCond .eq 16, 3) := by decide +kernel
theorem dX9_steps_122 : decode cX9_steps 122 = .ok (.aload_n 0, 1) := by decide +kernel
theorem dX9_steps_123 : decode cX9_steps 123 = .ok (.dup, 1) := by decide +kernel
theorem dX9_steps_124 : decode cX9_steps 124 = .ok (.getfield 50, 3) := by decide +kernel
theorem dX9_steps_127 : decode cX9_steps 127 = .ok (.iconst 1, 1) := by decide +kernel
theorem dX9_steps_128 : decode cX9_steps 128 = .ok (.iadd, 1) := by decide +kernel
theorem dX9_steps_129 : decode cX9_steps 129 = .ok (.putfield 50, 3) := by decide +kernel
theorem dX9_steps_132 : decode cX9_steps 132 = .ok (.goto (-28), 3) := by decide +kernel
theorem dX9_steps_135 : decode cX9_steps 135 = .ok (.aload_n 0, 1) := by decide +kernel
theorem dX9_steps_136 : decode cX9_steps 136 = .ok (.aload_n 0, 1) := by decide +kernel
theorem dX9_steps_137 : decode cX9_steps 137 = .ok (.invokevirtual 69, 3) := by decide +kernel
theorem dX9_steps_140 : decode cX9_steps 140 = .ok (.ifCond .eq 7, 3) := by decide +kernel
theorem dX9_steps_143 : decode cX9_steps 143 = .ok (.iconst 1, 1) := by decide +kernel
theorem dX9_steps_144 : decode cX9_steps 144 = .ok (.goto 15, 3) := by decide +kernel
theorem dX9_steps_147 : decode cX9_steps 147 = .ok (.aload_n 0, 1) := by decide +kernel
theorem dX9_steps_148 : decode cX9_steps 148 = .ok (.invokevirtual 73, 3) := by decide +kernel
theorem dX9_steps_151 : decode cX9_steps 151 = .ok (.ifCond .eq 7, 3) := by decide +kernel
theorem dX9_steps_154 : decode cX9_steps 154 = .ok (.iconst 2, 1) := by decide +kernel
theorem dX9_steps_155 : decode cX9_steps 155 = .ok (.goto 4, 3) := by decide +kernel
theorem dX9_steps_158 : decode cX9_steps 158 = .ok (.iconst 5, 1) := by decide +kernel
theorem dX9_steps_159 : decode cX9_steps 159 = .ok (.putfield 63, 3) := by decide +kernel
theorem dX9_steps_162 : decode cX9_steps 162 = .ok (.goto 35, 3) := by decide +kernel
theorem dX9_steps_165 : decode cX9_steps 165 = .ok (.aload_n 0, 1) := by decide +kernel
theorem dX9_steps_166 : decode cX9_steps 166 = .ok (.aload_n 0, 1) := by decide +kernel
theorem dX9_steps_167 : decode cX9_steps 167 = .ok (.aload_n 0, 1) := by decide +kernel
theorem dX9_steps_168 : decode cX9_steps 168 = .ok (.getfield 50, 3) := by decide +kernel
theorem dX9_steps_171 : decode cX9_steps 171 = .ok (.invokevirtual 56, 3) := by decide +kernel
theorem dX9_steps_174 : decode cX9_steps 174 = .ok (.bipush 59, 2) := by decide +kernel
theorem dX9_steps_176 : decode cX9_steps 176 = .ok (.if_icmp .ne 7, 3) := by decide +kernel
theorem dX9_steps_179 : decode cX9_steps 179 = .ok (.iconst 4, 1) := by decide +kernel
theorem dX9_steps_180 : decode cX9_steps 180 = .ok (.goto 4, 3) := by decide +kernel
theorem dX9_steps_183 : decode cX9_steps 183 = .ok (.iconst 5, 1) := by decide +kernel
theorem dX9_steps_184 : decode cX9_steps 184 = .ok (.putfield 63, 3) := by decide +kernel
theorem dX9_steps_187 : decode cX9_steps 187 = .ok (.aload_n 0, 1) := by decide +kernel
theorem dX9_steps_188 : decode cX9_steps 188 = .ok (.dup, 1) := by decide +kernel
theorem dX9_steps_189 : decode cX9_steps 189 = .ok (.getfield 50, 3) := by decide +kernel
theorem dX9_steps_192 : decode cX9_steps 192 = .ok (.iconst 1, 1) := by decide +kernel
theorem dX9_steps_193 : decode cX9_steps 193 = .ok (.iadd, 1) := by decide +kernel
theorem dX9_steps_194 : decode cX9_steps 194 = .ok (.putfield 50, 3) := by decide +kernel
theorem dX9_steps_197 : decode cX9_steps 197 = .ok (.return_, 1) := by decide +kernel
theorem dX9_takes_0 : decode cX9_takes 0 = .ok (.aload_n 0, 1) := by decide +kernel
theorem dX9_takes_1 : decode cX9_takes 1 = .ok (.getfield 76, 3) := by decide +kernel
theorem dX9_takes_4 : decode cX9_takes 4 = .ok (.bipush (-9), 2) := by decide +kernel
theorem dX9_takes_6 : decode cX9_takes 6 = .ok (.if_icmp .ne 22, 3) := by decide +kernel
theorem dX9_takes_9 : decode cX9_takes 9 = .ok (.iload_n 1, 1) := by decide +kernel
theorem dX9_takes_10 : decode cX9_takes 10 = .ok (.ifCond .eq 10, 3) := by decide +kernel
theorem dX9_takes_13 : decode cX9_takes 13 = .ok (.aload_n 0, 1) := by decide +kernel
theorem dX9_takes_14 : decode cX9_takes 14 = .ok (.invokevirtual 79, 3) := by decide +kernel
theorem dX9_takes_17 : decode cX9_takes 17 = .ok (.goto 11, 3) := by decide +kernel
theorem dX9_takes_20 : decode cX9_takes 20 = .ok (.aload_n 0, 1) := by decide +kernel
theorem dX9_takes_21 : decode cX9_takes 21 = .ok (.aload_n 0, 1) := by decide +kernel
theorem dX9_takes_22 : decode cX9_takes 22 = .ok (.getfield 53, 3) := by decide +kernel
theorem dX9_takes_25 : decode cX9_takes 25 = .ok (.putfield 76, 3) := by decide +kernel
theorem dX9_takes_28 : decode cX9_takes 28 = .ok (.return_, 1) := by decide +kernel
theorem dX9_numberIn_0 : decode cX9_numberIn 0 = .ok (.aload_n 0, 1) := by decide +kernel
theorem dX9_numberIn_1 : decode cX9_numberIn 1 = .ok (.getfield 60, 3) := by decide +kernel
theorem dX9_numberIn_4 : decode cX9_numberIn 4 = .ok (.istore_n 3, 1) := by decide +kernel
theorem dX9_numberIn_5 : decode cX9_numberIn 5 = .ok (.aload_n 0, 1) := by decide +kernel
theorem dX9_numberIn_6 : decode cX9_numberIn 6 = .ok (.aload_n 0, 1) := by decide +kernel
theorem dX9_numberIn_7 : decode cX9_numberIn 7 = .ok (.getfield 63, 3) := by decide +kernel
theorem dX9_numberIn_10 : decode cX9_numberIn 10 = .ok (.iconst 3, 1) := by decide +kernel
theorem dX9_numberIn_11 : decode cX9_numberIn 11 = .ok (.if_icmp .ne 16, 3) := by decide +kernel
theorem dX9_numberIn_14 : decode cX9_numberIn 14 = .ok (.iload_n 3, 1) := by decide +kernel
theorem dX9_numberIn_15 : decode cX9_numberIn 15 = .ok (.iload_n 1, 1) := by decide +kernel
theorem dX9_numberIn_16 : decode cX9_numberIn 16 = .ok (.iload_n 2, 1) := by decide +kernel
theorem dX9_numberIn_17 : decode cX9_numberIn 17 = .ok (.invokestatic 43, 3) := by decide +kernel
theorem dX9_numberIn_20 : decode cX9_numberIn 20 = .ok (.ifCond .eq 7, 3) := by decide +kernel
theorem dX9_numberIn_23 : decode cX9_numberIn 23 = .ok (.iconst 1, 1) := by decide +kernel
theorem dX9_numberIn_24 : decode cX9_numberIn 24 = .ok (.goto 4, 3) := by decide +kernel
theorem dX9_numberIn_27 : decode cX9_numberIn 27 = .ok (.iconst 0, 1) := by decide +kernel
theorem dX9_numberIn_28 : decode cX9_numberIn 28 = .ok (.invokevirtual 82, 3) := by decide +kernel
theorem dX9_numberIn_31 : decode cX9_numberIn 31 = .ok (.iload_n 3, 1) := by decide +kernel
theorem dX9_numberIn_32 : decode cX9_numberIn 32 = .ok (.ireturn, 1) := by decide +kernel
theorem dX9_readsCask_0 : decode cX9_readsCask 0 = .ok (.aload_n 0, 1) := by decide +kernel
theorem dX9_readsCask_1 : decode cX9_readsCask 1 = .ok (.aload_n 0, 1) := by decide +kernel
theorem dX9_readsCask_2 : decode cX9_readsCask 2 = .ok (.getfield 13, 3) := by decide +kernel
theorem dX9_readsCask_5 : decode cX9_readsCask 5 = .ok (.bipush 24, 2) := by decide +kernel
theorem dX9_readsCask_7 : decode cX9_readsCask 7 = .ok (.iaload, 1) := by decide +kernel
theorem dX9_readsCask_8 : decode cX9_readsCask 8 = .ok (.iconst 4, 1) := by decide +kernel
theorem dX9_readsCask_9 : decode cX9_readsCask 9 = .ok (.if_icmp .ge 7, 3) := by decide +kernel
theorem dX9_readsCask_12 : decode cX9_readsCask 12 = .ok (.iconst 1, 1) := by decide +kernel
theorem dX9_readsCask_13 : decode cX9_readsCask 13 = .ok (.goto 4, 3) := by decide +kernel
theorem dX9_readsCask_16 : decode cX9_readsCask 16 = .ok (.iconst 0, 1) := by decide +kernel
theorem dX9_readsCask_17 : decode cX9_readsCask 17 = .ok (.invokevirtual 82, 3) := by decide +kernel
theorem dX9_readsCask_20 : decode cX9_readsCask 20 = .ok (.aload_n 0, 1) := by decide +kernel
theorem dX9_readsCask_21 : decode cX9_readsCask 21 = .ok (.iconst 1, 1) := by decide +kernel
theorem dX9_readsCask_22 : decode cX9_readsCask 22 = .ok (.bipush 12, 2) := by decide +kernel
theorem dX9_readsCask_24 : decode cX9_readsCask 24 = .ok (.invokevirtual 86, 3) := by decide +kernel
theorem dX9_readsCask_27 : decode cX9_readsCask 27 = .ok (.istore_n 1, 1) := by decide +kernel
theorem dX9_readsCask_28 : decode cX9_readsCask 28 = .ok (.aload_n 0, 1) := by decide +kernel
theorem dX9_readsCask_29 : decode cX9_readsCask 29 = .ok (.iconst 1, 1) := by decide +kernel
theorem dX9_readsCask_30 : decode cX9_readsCask 30 = .ok (.bipush 20, 2) := by decide +kernel
theorem dX9_readsCask_32 : decode cX9_readsCask 32 = .ok (.invokevirtual 86, 3) := by decide +kernel
theorem dX9_readsCask_35 : decode cX9_readsCask 35 = .ok (.istore_n 2, 1) := by decide +kernel
theorem dX9_readsCask_36 : decode cX9_readsCask 36 = .ok (.aload_n 0, 1) := by decide +kernel
theorem dX9_readsCask_37 : decode cX9_readsCask 37 = .ok (.iload_n 2, 1) := by decide +kernel
theorem dX9_readsCask_38 : decode cX9_readsCask 38 = .ok (.bipush 20, 2) := by decide +kernel
theorem dX9_readsCask_40 : decode cX9_readsCask 40 = .ok (.invokevirtual 86, 3) := by decide +kernel
theorem dX9_readsCask_43 : decode cX9_readsCask 43 = .ok (.istore_n 3, 1) := by decide +kernel
theorem dX9_readsCask_44 : decode cX9_readsCask 44 = .ok (.aload_n 0, 1) := by decide +kernel
theorem dX9_readsCask_45 : decode cX9_readsCask 45 = .ok (.getfield 76, 3) := by decide +kernel
theorem dX9_readsCask_48 : decode cX9_readsCask 48 = .ok (.bipush (-9), 2) := by decide +kernel
theorem dX9_readsCask_50 : decode cX9_readsCask 50 = .ok (.if_icmp .ne 66, 3) := by decide +kernel
theorem dX9_readsCask_53 : decode cX9_readsCask 53 = .ok (.bipush 6, 2) := by decide +kernel
theorem dX9_readsCask_55 : decode cX9_readsCask 55 = .ok (.aload_n 0, 1) := by decide +kernel
theorem dX9_readsCask_56 : decode cX9_readsCask 56 = .ok (.getfield 13, 3) := by decide +kernel
theorem dX9_readsCask_59 : decode cX9_readsCask 59 = .ok (.bipush 24, 2) := by decide +kernel
theorem dX9_readsCask_61 : decode cX9_readsCask 61 = .ok (.iaload, 1) := by decide +kernel
theorem dX9_readsCask_62 : decode cX9_readsCask 62 = .ok (.imul, 1) := by decide +kernel
theorem dX9_readsCask_63 : decode cX9_readsCask 63 = .ok (.istore 4, 2) := by decide +kernel
theorem dX9_readsCask_65 : decode cX9_readsCask 65 = .ok (.aload_n 0, 1) := by decide +kernel
theorem dX9_readsCask_66 : decode cX9_readsCask 66 = .ok (.getfield 13, 3) := by decide +kernel
theorem dX9_readsCask_69 : decode cX9_readsCask 69 = .ok (.iload 4, 2) := by decide +kernel
theorem dX9_readsCask_71 : decode cX9_readsCask 71 = .ok (.iconst 0, 1) := by decide +kernel
theorem dX9_readsCask_72 : decode cX9_readsCask 72 = .ok (.iadd, 1) := by decide +kernel
theorem dX9_readsCask_73 : decode cX9_readsCask 73 = .ok (.iload_n 1, 1) := by decide +kernel
theorem dX9_readsCask_74 : decode cX9_readsCask 74 = .ok (.iastore, 1) := by decide +kernel
theorem dX9_readsCask_75 : decode cX9_readsCask 75 = .ok (.aload_n 0, 1) := by decide +kernel
theorem dX9_readsCask_76 : decode cX9_readsCask 76 = .ok (.getfield 13, 3) := by decide +kernel
theorem dX9_readsCask_79 : decode cX9_readsCask 79 = .ok (.iload 4, 2) := by decide +kernel
theorem dX9_readsCask_81 : decode cX9_readsCask 81 = .ok (.iconst 1, 1) := by decide +kernel
theorem dX9_readsCask_82 : decode cX9_readsCask 82 = .ok (.iadd, 1) := by decide +kernel
theorem dX9_readsCask_83 : decode cX9_readsCask 83 = .ok (.iload_n 2, 1) := by decide +kernel
theorem dX9_readsCask_84 : decode cX9_readsCask 84 = .ok (.iastore, 1) := by decide +kernel
theorem dX9_readsCask_85 : decode cX9_readsCask 85 = .ok (.aload_n 0, 1) := by decide +kernel
theorem dX9_readsCask_86 : decode cX9_readsCask 86 = .ok (.getfield 13, 3) := by decide +kernel
theorem dX9_readsCask_89 : decode cX9_readsCask 89 = .ok (.iload 4, 2) := by decide +kernel
theorem dX9_readsCask_91 : decode cX9_readsCask 91 = .ok (.iconst 2, 1) := by decide +kernel
theorem dX9_readsCask_92 : decode cX9_readsCask 92 = .ok (.iadd, 1) := by decide +kernel
theorem dX9_readsCask_93 : decode cX9_readsCask 93 = .ok (.iload_n 3, 1) := by decide +kernel
theorem dX9_readsCask_94 : decode cX9_readsCask 94 = .ok (.iastore, 1) := by decide +kernel
theorem dX9_readsCask_95 : decode cX9_readsCask 95 = .ok (.aload_n 0, 1) := by decide +kernel
theorem dX9_readsCask_96 : decode cX9_readsCask 96 = .ok (.getfield 13, 3) := by decide +kernel
theorem dX9_readsCask_99 : decode cX9_readsCask 99 = .ok (.iload 4, 2) := by decide +kernel
theorem dX9_readsCask_101 : decode cX9_readsCask 101 = .ok (.iconst 3, 1) := by decide +kernel
theorem dX9_readsCask_102 : decode cX9_readsCask 102 = .ok (.iadd, 1) := by decide +kernel
theorem dX9_readsCask_103 : decode cX9_readsCask 103 = .ok (.iconst 1, 1) := by decide +kernel
theorem dX9_readsCask_104 : decode cX9_readsCask 104 = .ok (.iastore, 1) := by decide +kernel
theorem dX9_readsCask_105 : decode cX9_readsCask 105 = .ok (.aload_n 0, 1) := by decide +kernel
theorem dX9_readsCask_106 : decode cX9_readsCask 106 = .ok (.getfield 13, 3) := by decide +kernel
theorem dX9_readsCask_109 : decode cX9_readsCask 109 = .ok (.bipush 24, 2) := by decide +kernel
theorem dX9_readsCask_111 : decode cX9_readsCask 111 = .ok (.dup2, 1) := by decide +kernel
theorem dX9_readsCask_112 : decode cX9_readsCask 112 = .ok (.iaload, 1) := by decide +kernel
theorem dX9_readsCask_113 : decode cX9_readsCask 113 = .ok (.iconst 1, 1) := by decide +kernel
theorem dX9_readsCask_114 : decode cX9_readsCask 114 = .ok (.iadd, 1) := by decide +kernel
theorem dX9_readsCask_115 : decode cX9_readsCask 115 = .ok (.iastore, 1) := by decide +kernel
theorem dX9_readsCask_116 : decode cX9_readsCask 116 = .ok (.return_, 1) := by decide +kernel
theorem dX9_readsStands_0 : decode cX9_readsStands 0 = .ok (.aload_n 0, 1) := by decide +kernel
theorem dX9_readsStands_1 : decode cX9_readsStands 1 = .ok (.iconst 1, 1) := by decide +kernel
theorem dX9_readsStands_2 : decode cX9_readsStands 2 = .ok (.invokevirtual 82, 3) := by decide +kernel
theorem dX9_readsStands_5 : decode cX9_readsStands 5 = .ok (.aload_n 0, 1) := by decide +kernel
theorem dX9_readsStands_6 : decode cX9_readsStands 6 = .ok (.iconst 0, 1) := by decide +kernel
theorem dX9_readsStands_7 : decode cX9_readsStands 7 = .ok (.aload_n 0, 1) := by decide +kernel
theorem dX9_readsStands_8 : decode cX9_readsStands 8 = .ok (.getfield 13, 3) := by decide +kernel
theorem dX9_readsStands_11 : decode cX9_readsStands 11 = .ok (.bipush 24, 2) := by decide +kernel
theorem dX9_readsStands_13 : decode cX9_readsStands 13 = .ok (.iaload, 1) := by decide +kernel
theorem dX9_readsStands_14 : decode cX9_readsStands 14 = .ok (.iconst 1, 1) := by decide +kernel
theorem dX9_readsStands_15 : decode cX9_readsStands 15 = .ok (.isub, 1) := by decide +kernel
theorem dX9_readsStands_16 : decode cX9_readsStands 16 = .ok (.invokevirtual 86, 3) := by decide +kernel
theorem dX9_readsStands_19 : decode cX9_readsStands 19 = .ok (.istore_n 1, 1) := by decide +kernel
theorem dX9_readsStands_20 : decode cX9_readsStands 20 = .ok (.aload_n 0, 1) := by decide +kernel
theorem dX9_readsStands_21 : decode cX9_readsStands 21 = .ok (.getfield 76, 3) := by decide +kernel
theorem dX9_readsStands_24 : decode cX9_readsStands 24 = .ok (.bipush (-9), 2) := by decide +kernel
theorem dX9_readsStands_26 : decode cX9_readsStands 26 = .ok (.if_icmp .ne 15, 3) := by decide +kernel
theorem dX9_readsStands_29 : decode cX9_readsStands 29 = .ok (.aload_n 0, 1) := by decide +kernel
theorem dX9_readsStands_30 : decode cX9_readsStands 30 = .ok (.getfield 13, 3) := by decide +kernel
theorem dX9_readsStands_33 : decode cX9_readsStands 33 = .ok (.bipush 6, 2) := by decide +kernel
theorem dX9_readsStands_35 : decode cX9_readsStands 35 = .ok (.iload_n 1, 1) := by decide +kernel
theorem dX9_readsStands_36 : decode cX9_readsStands 36 = .ok (.imul, 1) := by decide +kernel
theorem dX9_readsStands_37 : decode cX9_readsStands 37 = .ok (.iconst 3, 1) := by decide +kernel
theorem dX9_readsStands_38 : decode cX9_readsStands 38 = .ok (.iadd, 1) := by decide +kernel
theorem dX9_readsStands_39 : decode cX9_readsStands 39 = .ok (.iconst 0, 1) := by decide +kernel
theorem dX9_readsStands_40 : decode cX9_readsStands 40 = .ok (.iastore, 1) := by decide +kernel
theorem dX9_readsStands_41 : decode cX9_readsStands 41 = .ok (.return_, 1) := by decide +kernel
theorem dX9_reads_0 : decode cX9_reads 0 = .ok (.iconst 0, 1) := by decide +kernel
theorem dX9_reads_1 : decode cX9_reads 1 = .ok (.istore_n 1, 1) := by decide +kernel
theorem dX9_reads_2 : decode cX9_reads 2 = .ok (.iload_n 1, 1) := by decide +kernel
theorem dX9_reads_3 : decode cX9_reads 3 = .ok (.bipush 25, 2) := by decide +kernel
theorem dX9_reads_5 : decode cX9_reads 5 = .ok (.if_icmp .ge 16, 3) := by decide +kernel
theorem dX9_reads_8 : decode cX9_reads 8 = .ok (.aload_n 0, 1) := by decide +kernel
theorem dX9_reads_9 : decode cX9_reads 9 = .ok (.getfield 13, 3) := by decide +kernel
theorem dX9_reads_12 : decode cX9_reads 12 = .ok (.iload_n 1, 1) := by decide +kernel
theorem dX9_reads_13 : decode cX9_reads 13 = .ok (.iconst 0, 1) := by decide +kernel
theorem dX9_reads_14 : decode cX9_reads 14 = .ok (.iastore, 1) := by decide +kernel
theorem dX9_reads_15 : decode cX9_reads 15 = .ok (.iinc 1 1, 3) := by decide +kernel
theorem dX9_reads_18 : decode cX9_reads 18 = .ok (.goto (-16), 3) := by decide +kernel
theorem dX9_reads_21 : decode cX9_reads 21 = .ok (.aload_n 0, 1) := by decide +kernel
theorem dX9_reads_22 : decode cX9_reads 22 = .ok (.bipush (-9), 2) := by decide +kernel
theorem dX9_reads_24 : decode cX9_reads 24 = .ok (.putfield 76, 3) := by decide +kernel
theorem dX9_reads_27 : decode cX9_reads 27 = .ok (.aload_n 0, 1) := by decide +kernel
theorem dX9_reads_28 : decode cX9_reads 28 = .ok (.iconst 0, 1) := by decide +kernel
theorem dX9_reads_29 : decode cX9_reads 29 = .ok (.putfield 50, 3) := by decide +kernel
theorem dX9_reads_32 : decode cX9_reads 32 = .ok (.aload_n 0, 1) := by decide +kernel
theorem dX9_reads_33 : decode cX9_reads 33 = .ok (.invokevirtual 79, 3) := by decide +kernel
theorem dX9_reads_36 : decode cX9_reads 36 = .ok (.iconst 0, 1) := by decide +kernel
theorem dX9_reads_37 : decode cX9_reads 37 = .ok (.istore_n 1, 1) := by decide +kernel
theorem dX9_reads_38 : decode cX9_reads 38 = .ok (.aload_n 0, 1) := by decide +kernel
theorem dX9_reads_39 : decode cX9_reads 39 = .ok (.getfield 76, 3) := by decide +kernel
theorem dX9_reads_42 : decode cX9_reads 42 = .ok (.bipush (-9), 2) := by decide +kernel
theorem dX9_reads_44 : decode cX9_reads 44 = .ok (.if_icmp .ne 68, 3) := by decide +kernel
theorem dX9_reads_47 : decode cX9_reads 47 = .ok (.aload_n 0, 1) := by decide +kernel
theorem dX9_reads_48 : decode cX9_reads 48 = .ok (.getfield 63, 3) := by decide +kernel
theorem dX9_reads_51 : decode cX9_reads 51 = .ok (.ifCond .eq 61, 3) := by decide +kernel
theorem dX9_reads_54 : decode cX9_reads 54 = .ok (.aload_n 0, 1) := by decide +kernel
theorem dX9_reads_55 : decode cX9_reads 55 = .ok (.getfield 63, 3) := by decide +kernel
theorem dX9_reads_58 : decode cX9_reads 58 = .ok (.iconst 1, 1) := by decide +kernel
theorem dX9_reads_59 : decode cX9_reads 59 = .ok (.if_icmp .ne 10, 3) := by decide +kernel
theorem dX9_reads_62 : decode cX9_reads 62 = .ok (.aload_n 0, 1) := by decide +kernel
theorem dX9_reads_63 : decode cX9_reads 63 = .ok (.invokevirtual 90, 3) := by decide +kernel
theorem dX9_reads_66 : decode cX9_reads 66 = .ok (.goto 23, 3) := by decide +kernel
theorem dX9_reads_69 : decode cX9_reads 69 = .ok (.aload_n 0, 1) := by decide +kernel
theorem dX9_reads_70 : decode cX9_reads 70 = .ok (.getfield 63, 3) := by decide +kernel
theorem dX9_reads_73 : decode cX9_reads 73 = .ok (.iconst 2, 1) := by decide +kernel
theorem dX9_reads_74 : decode cX9_reads 74 = .ok (.if_icmp .ne 10, 3) := by decide +kernel
theorem dX9_reads_77 : decode cX9_reads 77 = .ok (.aload_n 0, 1) := by decide +kernel
theorem dX9_reads_78 : decode cX9_reads 78 = .ok (.invokevirtual 93, 3) := by decide +kernel
theorem dX9_reads_81 : decode cX9_reads 81 = .ok (.goto 8, 3) := by decide +kernel
theorem dX9_reads_84 : decode cX9_reads 84 = .ok (.aload_n 0, 1) := by decide +kernel
theorem dX9_reads_85 : decode cX9_reads 85 = .ok (.iconst 0, 1) := by decide +kernel
theorem dX9_reads_86 : decode cX9_reads 86 = .ok (.invokevirtual 82, 3) := by decide +kernel
theorem dX9_reads_89 : decode cX9_reads 89 = .ok (.aload_n 0, 1) := by decide +kernel
theorem dX9_reads_90 : decode cX9_reads 90 = .ok (.aload_n 0, 1) := by decide +kernel
theorem dX9_reads_91 : decode cX9_reads 91 = .ok (.getfield 63, 3) := by decide +kernel
theorem dX9_reads_94 : decode cX9_reads 94 = .ok (.iconst 4, 1) := by decide +kernel
theorem dX9_reads_95 : decode cX9_reads 95 = .ok (.if_icmp .ne 7, 3) := by decide +kernel
theorem dX9_reads_98 : decode cX9_reads 98 = .ok (.iconst 1, 1) := by decide +kernel
theorem dX9_reads_99 : decode cX9_reads 99 = .ok (.goto 4, 3) := by decide +kernel
theorem dX9_reads_102 : decode cX9_reads 102 = .ok (.iconst 0, 1) := by decide +kernel
theorem dX9_reads_103 : decode cX9_reads 103 = .ok (.invokevirtual 82, 3) := by decide +kernel
theorem dX9_reads_106 : decode cX9_reads 106 = .ok (.iinc 1 1, 3) := by decide +kernel
theorem dX9_reads_109 : decode cX9_reads 109 = .ok (.goto (-71), 3) := by decide +kernel
theorem dX9_reads_112 : decode cX9_reads 112 = .ok (.iload_n 1, 1) := by decide +kernel
theorem dX9_reads_113 : decode cX9_reads 113 = .ok (.ireturn, 1) := by decide +kernel
theorem dX9_tells_0 : decode cX9_tells 0 = .ok (.aload_n 0, 1) := by decide +kernel
theorem dX9_tells_1 : decode cX9_tells 1 = .ok (.iconst 0, 1) := by decide +kernel
theorem dX9_tells_2 : decode cX9_tells 2 = .ok (.putfield 39, 3) := by decide +kernel
theorem dX9_tells_5 : decode cX9_tells 5 = .ok (.aload_n 0, 1) := by decide +kernel
theorem dX9_tells_6 : decode cX9_tells 6 = .ok (.invokevirtual 96, 3) := by decide +kernel
theorem dX9_tells_9 : decode cX9_tells 9 = .ok (.istore_n 1, 1) := by decide +kernel
theorem dX9_tells_10 : decode cX9_tells 10 = .ok (.aload_n 0, 1) := by decide +kernel
theorem dX9_tells_11 : decode cX9_tells 11 = .ok (.getfield 76, 3) := by decide +kernel
theorem dX9_tells_14 : decode cX9_tells 14 = .ok (.bipush (-9), 2) := by decide +kernel
theorem dX9_tells_16 : decode cX9_tells 16 = .ok (.if_icmp .eq 11, 3) := by decide +kernel
theorem dX9_tells_19 : decode cX9_tells 19 = .ok (.bipush (-10), 2) := by decide +kernel
theorem dX9_tells_21 : decode cX9_tells 21 = .ok (.aload_n 0, 1) := by decide +kernel
theorem dX9_tells_22 : decode cX9_tells 22 = .ok (.getfield 76, 3) := by decide +kernel
theorem dX9_tells_25 : decode cX9_tells 25 = .ok (.isub, 1) := by decide +kernel
theorem dX9_tells_26 : decode cX9_tells 26 = .ok (.ireturn, 1) := by decide +kernel
theorem dX9_tells_27 : decode cX9_tells 27 = .ok (.aload_n 0, 1) := by decide +kernel
theorem dX9_tells_28 : decode cX9_tells 28 = .ok (.invokevirtual 100, 3) := by decide +kernel
theorem dX9_tells_31 : decode cX9_tells 31 = .ok (.iconst 0, 1) := by decide +kernel
theorem dX9_tells_32 : decode cX9_tells 32 = .ok (.istore_n 2, 1) := by decide +kernel
theorem dX9_tells_33 : decode cX9_tells 33 = .ok (.iload_n 2, 1) := by decide +kernel
theorem dX9_tells_34 : decode cX9_tells 34 = .ok (.bipush 25, 2) := by decide +kernel
theorem dX9_tells_36 : decode cX9_tells 36 = .ok (.if_icmp .ge 21, 3) := by decide +kernel
theorem dX9_tells_39 : decode cX9_tells 39 = .ok (.aload_n 0, 1) := by decide +kernel
theorem dX9_tells_40 : decode cX9_tells 40 = .ok (.getfield 7, 3) := by decide +kernel
theorem dX9_tells_43 : decode cX9_tells 43 = .ok (.iload_n 2, 1) := by decide +kernel
theorem dX9_tells_44 : decode cX9_tells 44 = .ok (.aload_n 0, 1) := by decide +kernel
theorem dX9_tells_45 : decode cX9_tells 45 = .ok (.getfield 13, 3) := by decide +kernel
theorem dX9_tells_48 : decode cX9_tells 48 = .ok (.iload_n 2, 1) := by decide +kernel
theorem dX9_tells_49 : decode cX9_tells 49 = .ok (.iaload, 1) := by decide +kernel
theorem dX9_tells_50 : decode cX9_tells 50 = .ok (.iastore, 1) := by decide +kernel
theorem dX9_tells_51 : decode cX9_tells 51 = .ok (.iinc 2 1, 3) := by decide +kernel
theorem dX9_tells_54 : decode cX9_tells 54 = .ok (.goto (-21), 3) := by decide +kernel
theorem dX9_tells_57 : decode cX9_tells 57 = .ok (.aload_n 0, 1) := by decide +kernel
theorem dX9_tells_58 : decode cX9_tells 58 = .ok (.iconst 0, 1) := by decide +kernel
theorem dX9_tells_59 : decode cX9_tells 59 = .ok (.putfield 47, 3) := by decide +kernel
theorem dX9_tells_62 : decode cX9_tells 62 = .ok (.iload_n 1, 1) := by decide +kernel
theorem dX9_tells_63 : decode cX9_tells 63 = .ok (.ireturn, 1) := by decide +kernel
theorem dX9_isCask_0 : decode cX9_isCask 0 = .ok (.iload_n 1, 1) := by decide +kernel
theorem dX9_isCask_1 : decode cX9_isCask 1 = .ok (.iconst 0, 1) := by decide +kernel
theorem dX9_isCask_2 : decode cX9_isCask 2 = .ok (.aload_n 0, 1) := by decide +kernel
theorem dX9_isCask_3 : decode cX9_isCask 3 = .ok (.getfield 7, 3) := by decide +kernel
theorem dX9_isCask_6 : decode cX9_isCask 6 = .ok (.bipush 24, 2) := by decide +kernel
theorem dX9_isCask_8 : decode cX9_isCask 8 = .ok (.iaload, 1) := by decide +kernel
theorem dX9_isCask_9 : decode cX9_isCask 9 = .ok (.iconst 1, 1) := by decide +kernel
theorem dX9_isCask_10 : decode cX9_isCask 10 = .ok (.isub, 1) := by decide +kernel
theorem dX9_isCask_11 : decode cX9_isCask 11 = .ok (.invokestatic 43, 3) := by decide +kernel
theorem dX9_isCask_14 : decode cX9_isCask 14 = .ok (.ireturn, 1) := by decide +kernel
theorem dX9_of_0 : decode cX9_of 0 = .ok (.aload_n 0, 1) := by decide +kernel
theorem dX9_of_1 : decode cX9_of 1 = .ok (.getfield 7, 3) := by decide +kernel
theorem dX9_of_4 : decode cX9_of 4 = .ok (.bipush 6, 2) := by decide +kernel
theorem dX9_of_6 : decode cX9_of 6 = .ok (.iload_n 1, 1) := by decide +kernel
theorem dX9_of_7 : decode cX9_of 7 = .ok (.imul, 1) := by decide +kernel
theorem dX9_of_8 : decode cX9_of 8 = .ok (.iload_n 2, 1) := by decide +kernel
theorem dX9_of_9 : decode cX9_of 9 = .ok (.iadd, 1) := by decide +kernel
theorem dX9_of_10 : decode cX9_of 10 = .ok (.iaload, 1) := by decide +kernel
theorem dX9_of_11 : decode cX9_of 11 = .ok (.ireturn, 1) := by decide +kernel
theorem dX9_radius_0 : decode cX9_radius 0 = .ok (.aload_n 0, 1) := by decide +kernel
theorem dX9_radius_1 : decode cX9_radius 1 = .ok (.iload_n 1, 1) := by decide +kernel
theorem dX9_radius_2 : decode cX9_radius 2 = .ok (.iconst 0, 1) := by decide +kernel
theorem dX9_radius_3 : decode cX9_radius 3 = .ok (.invokevirtual 103, 3) := by decide +kernel
theorem dX9_radius_6 : decode cX9_radius 6 = .ok (.istore_n 3, 1) := by decide +kernel
theorem dX9_radius_7 : decode cX9_radius 7 = .ok (.iconst 2, 1) := by decide +kernel
theorem dX9_radius_8 : decode cX9_radius 8 = .ok (.iload_n 2, 1) := by decide +kernel
theorem dX9_radius_9 : decode cX9_radius 9 = .ok (.imul, 1) := by decide +kernel
theorem dX9_radius_10 : decode cX9_radius 10 = .ok (.iconst 1, 1) := by decide +kernel
theorem dX9_radius_11 : decode cX9_radius 11 = .ok (.iadd, 1) := by decide +kernel
theorem dX9_radius_12 : decode cX9_radius 12 = .ok (.iload_n 3, 1) := by decide +kernel
theorem dX9_radius_13 : decode cX9_radius 13 = .ok (.isub, 1) := by decide +kernel
theorem dX9_radius_14 : decode cX9_radius 14 = .ok (.istore 4, 2) := by decide +kernel
theorem dX9_radius_16 : decode cX9_radius 16 = .ok (.aload_n 0, 1) := by decide +kernel
theorem dX9_radius_17 : decode cX9_radius 17 = .ok (.iload_n 1, 1) := by decide +kernel
theorem dX9_radius_18 : decode cX9_radius 18 = .ok (.iconst 2, 1) := by decide +kernel
theorem dX9_radius_19 : decode cX9_radius 19 = .ok (.invokevirtual 103, 3) := by decide +kernel
theorem dX9_radius_22 : decode cX9_radius 22 = .ok (.aload_n 0, 1) := by decide +kernel
theorem dX9_radius_23 : decode cX9_radius 23 = .ok (.iload_n 1, 1) := by decide +kernel
theorem dX9_radius_24 : decode cX9_radius 24 = .ok (.iconst 2, 1) := by decide +kernel
theorem dX9_radius_25 : decode cX9_radius 25 = .ok (.invokevirtual 103, 3) := by decide +kernel
theorem dX9_radius_28 : decode cX9_radius 28 = .ok (.aload_n 0, 1) := by decide +kernel
theorem dX9_radius_29 : decode cX9_radius 29 = .ok (.iload_n 1, 1) := by decide +kernel
theorem dX9_radius_30 : decode cX9_radius 30 = .ok (.iconst 1, 1) := by decide +kernel
theorem dX9_radius_31 : decode cX9_radius 31 = .ok (.invokevirtual 103, 3) := by decide +kernel
theorem dX9_radius_34 : decode cX9_radius 34 = .ok (.isub, 1) := by decide +kernel
theorem dX9_radius_35 : decode cX9_radius 35 = .ok (.iload 4, 2) := by decide +kernel
theorem dX9_radius_37 : decode cX9_radius 37 = .ok (.imul, 1) := by decide +kernel
theorem dX9_radius_38 : decode cX9_radius 38 = .ok (.iload 4, 2) := by decide +kernel
theorem dX9_radius_40 : decode cX9_radius 40 = .ok (.imul, 1) := by decide +kernel
theorem dX9_radius_41 : decode cX9_radius 41 = .ok (.iload_n 3, 1) := by decide +kernel
theorem dX9_radius_42 : decode cX9_radius 42 = .ok (.iload_n 3, 1) := by decide +kernel
theorem dX9_radius_43 : decode cX9_radius 43 = .ok (.imul, 1) := by decide +kernel
theorem dX9_radius_44 : decode cX9_radius 44 = .ok (.idiv, 1) := by decide +kernel
theorem dX9_radius_45 : decode cX9_radius 45 = .ok (.isub, 1) := by decide +kernel
theorem dX9_radius_46 : decode cX9_radius 46 = .ok (.ireturn, 1) := by decide +kernel
theorem dX9_cellsOf_0 : decode cX9_cellsOf 0 = .ok (.iconst 2, 1) := by decide +kernel
theorem dX9_cellsOf_1 : decode cX9_cellsOf 1 = .ok (.aload_n 0, 1) := by decide +kernel
theorem dX9_cellsOf_2 : decode cX9_cellsOf 2 = .ok (.iload_n 1, 1) := by decide +kernel
theorem dX9_cellsOf_3 : decode cX9_cellsOf 3 = .ok (.iload_n 2, 1) := by decide +kernel
theorem dX9_cellsOf_4 : decode cX9_cellsOf 4 = .ok (.invokevirtual 106, 3) := by decide +kernel
theorem dX9_cellsOf_7 : decode cX9_cellsOf 7 = .ok (.imul, 1) := by decide +kernel
theorem dX9_cellsOf_8 : decode cX9_cellsOf 8 = .ok (.istore 4, 2) := by decide +kernel
theorem dX9_cellsOf_10 : decode cX9_cellsOf 10 = .ok (.iconst 2, 1) := by decide +kernel
theorem dX9_cellsOf_11 : decode cX9_cellsOf 11 = .ok (.iload_n 3, 1) := by decide +kernel
theorem dX9_cellsOf_12 : decode cX9_cellsOf 12 = .ok (.imul, 1) := by decide +kernel
theorem dX9_cellsOf_13 : decode cX9_cellsOf 13 = .ok (.iconst 1, 1) := by decide +kernel
theorem dX9_cellsOf_14 : decode cX9_cellsOf 14 = .ok (.iadd, 1) := by decide +kernel
theorem dX9_cellsOf_15 : decode cX9_cellsOf 15 = .ok (.iconst 2, 1) := by decide +kernel
theorem dX9_cellsOf_16 : decode cX9_cellsOf 16 = .ok (.aload_n 0, 1) := by decide +kernel
theorem dX9_cellsOf_17 : decode cX9_cellsOf 17 = .ok (.iload_n 1, 1) := by decide +kernel
theorem dX9_cellsOf_18 : decode cX9_cellsOf 18 = .ok (.iconst 2, 1) := by decide +kernel
theorem dX9_cellsOf_19 : decode cX9_cellsOf 19 = .ok (.invokevirtual 103, 3) := by decide +kernel
theorem dX9_cellsOf_22 : decode cX9_cellsOf 22 = .ok (.imul, 1) := by decide +kernel
theorem dX9_cellsOf_23 : decode cX9_cellsOf 23 = .ok (.isub, 1) := by decide +kernel
theorem dX9_cellsOf_24 : decode cX9_cellsOf 24 = .ok (.istore 5, 2) := by decide +kernel
theorem dX9_cellsOf_26 : decode cX9_cellsOf 26 = .ok (.iload 4, 2) := by decide +kernel
theorem dX9_cellsOf_28 : decode cX9_cellsOf 28 = .ok (.iload 4, 2) := by decide +kernel
theorem dX9_cellsOf_30 : decode cX9_cellsOf 30 = .ok (.imul, 1) := by decide +kernel
theorem dX9_cellsOf_31 : decode cX9_cellsOf 31 = .ok (.iload 5, 2) := by decide +kernel
theorem dX9_cellsOf_33 : decode cX9_cellsOf 33 = .ok (.iload 5, 2) := by decide +kernel
theorem dX9_cellsOf_35 : decode cX9_cellsOf 35 = .ok (.imul, 1) := by decide +kernel
theorem dX9_cellsOf_36 : decode cX9_cellsOf 36 = .ok (.isub, 1) := by decide +kernel
theorem dX9_cellsOf_37 : decode cX9_cellsOf 37 = .ok (.istore 6, 2) := by decide +kernel
theorem dX9_cellsOf_39 : decode cX9_cellsOf 39 = .ok (.iconst 0, 1) := by decide +kernel
theorem dX9_cellsOf_40 : decode cX9_cellsOf 40 = .ok (.istore 7, 2) := by decide +kernel
theorem dX9_cellsOf_42 : decode cX9_cellsOf 42 = .ok (.iload 6, 2) := by decide +kernel
theorem dX9_cellsOf_44 : decode cX9_cellsOf 44 = .ok (.ifCond .lt 25, 3) := by decide +kernel
theorem dX9_cellsOf_47 : decode cX9_cellsOf 47 = .ok (.iconst 4, 1) := by decide +kernel
theorem dX9_cellsOf_48 : decode cX9_cellsOf 48 = .ok (.iload 7, 2) := by decide +kernel
theorem dX9_cellsOf_50 : decode cX9_cellsOf 50 = .ok (.iconst 1, 1) := by decide +kernel
theorem dX9_cellsOf_51 : decode cX9_cellsOf 51 = .ok (.iadd, 1) := by decide +kernel
theorem dX9_cellsOf_52 : decode cX9_cellsOf 52 = .ok (.imul, 1) := by decide +kernel
theorem dX9_cellsOf_53 : decode cX9_cellsOf 53 = .ok (.iload 7, 2) := by decide +kernel
theorem dX9_cellsOf_55 : decode cX9_cellsOf 55 = .ok (.iconst 1, 1) := by decide +kernel
theorem dX9_cellsOf_56 : decode cX9_cellsOf 56 = .ok (.iadd, 1) := by decide +kernel
theorem dX9_cellsOf_57 : decode cX9_cellsOf 57 = .ok (.imul, 1) := by decide +kernel
theorem dX9_cellsOf_58 : decode cX9_cellsOf 58 = .ok (.iload 6, 2) := by decide +kernel
theorem dX9_cellsOf_60 : decode cX9_cellsOf 60 = .ok (.if_icmp .gt 9, 3) := by decide +kernel
theorem dX9_cellsOf_63 : decode cX9_cellsOf 63 = .ok (.iinc 7 1, 3) := by decide +kernel
theorem dX9_cellsOf_66 : decode cX9_cellsOf 66 = .ok (.goto (-24), 3) := by decide +kernel
theorem dX9_cellsOf_69 : decode cX9_cellsOf 69 = .ok (.iconst 2, 1) := by decide +kernel
theorem dX9_cellsOf_70 : decode cX9_cellsOf 70 = .ok (.iload 7, 2) := by decide +kernel
theorem dX9_cellsOf_72 : decode cX9_cellsOf 72 = .ok (.imul, 1) := by decide +kernel
theorem dX9_cellsOf_73 : decode cX9_cellsOf 73 = .ok (.ireturn, 1) := by decide +kernel
theorem dX9_lays_0 : decode cX9_lays 0 = .ok (.aload_n 0, 1) := by decide +kernel
theorem dX9_lays_1 : decode cX9_lays 1 = .ok (.iload_n 2, 1) := by decide +kernel
theorem dX9_lays_2 : decode cX9_lays 2 = .ok (.ifCond .eq 14, 3) := by decide +kernel
theorem dX9_lays_5 : decode cX9_lays 5 = .ok (.iconst 2, 1) := by decide +kernel
theorem dX9_lays_6 : decode cX9_lays 6 = .ok (.aload_n 0, 1) := by decide +kernel
theorem dX9_lays_7 : decode cX9_lays 7 = .ok (.iload_n 1, 1) := by decide +kernel
theorem dX9_lays_8 : decode cX9_lays 8 = .ok (.iconst 2, 1) := by decide +kernel
theorem dX9_lays_9 : decode cX9_lays 9 = .ok (.invokevirtual 103, 3) := by decide +kernel
theorem dX9_lays_12 : decode cX9_lays 12 = .ok (.imul, 1) := by decide +kernel
theorem dX9_lays_13 : decode cX9_lays 13 = .ok (.goto 9, 3) := by decide +kernel
theorem dX9_lays_16 : decode cX9_lays 16 = .ok (.aload_n 0, 1) := by decide +kernel
theorem dX9_lays_17 : decode cX9_lays 17 = .ok (.iload_n 1, 1) := by decide +kernel
theorem dX9_lays_18 : decode cX9_lays 18 = .ok (.iconst 0, 1) := by decide +kernel
theorem dX9_lays_19 : decode cX9_lays 19 = .ok (.invokevirtual 103, 3) := by decide +kernel
theorem dX9_lays_22 : decode cX9_lays 22 = .ok (.putfield 109, 3) := by decide +kernel
theorem dX9_lays_25 : decode cX9_lays 25 = .ok (.aload_n 0, 1) := by decide +kernel
theorem dX9_lays_26 : decode cX9_lays 26 = .ok (.getfield 33, 3) := by decide +kernel
theorem dX9_lays_29 : decode cX9_lays 29 = .ok (.iconst 0, 1) := by decide +kernel
theorem dX9_lays_30 : decode cX9_lays 30 = .ok (.iconst 0, 1) := by decide +kernel
theorem dX9_lays_31 : decode cX9_lays 31 = .ok (.iastore, 1) := by decide +kernel
theorem dX9_lays_32 : decode cX9_lays 32 = .ok (.iconst 0, 1) := by decide +kernel
theorem dX9_lays_33 : decode cX9_lays 33 = .ok (.istore_n 3, 1) := by decide +kernel
theorem dX9_lays_34 : decode cX9_lays 34 = .ok (.iload_n 3, 1) := by decide +kernel
theorem dX9_lays_35 : decode cX9_lays 35 = .ok (.aload_n 0, 1) := by decide +kernel
theorem dX9_lays_36 : decode cX9_lays 36 = .ok (.getfield 109, 3) := by decide +kernel
theorem dX9_lays_39 : decode cX9_lays 39 = .ok (.if_icmp .ge 92, 3) := by decide +kernel
theorem dX9_lays_42 : decode cX9_lays 42 = .ok (.iconst 0, 1) := by decide +kernel
theorem dX9_lays_43 : decode cX9_lays 43 = .ok (.istore 4, 2) := by decide +kernel
theorem dX9_lays_45 : decode cX9_lays 45 = .ok (.iconst 0, 1) := by decide +kernel
theorem dX9_lays_46 : decode cX9_lays 46 = .ok (.istore 5, 2) := by decide +kernel
theorem dX9_lays_48 : decode cX9_lays 48 = .ok (.iload 5, 2) := by decide +kernel
theorem dX9_lays_50 : decode cX9_lays 50 = .ok (.iload_n 2, 1) := by decide +kernel
theorem dX9_lays_51 : decode cX9_lays 51 = .ok (.ifCond .eq 12, 3) := by decide +kernel
theorem dX9_lays_54 : decode cX9_lays 54 = .ok (.aload_n 0, 1) := by decide +kernel
theorem dX9_lays_55 : decode cX9_lays 55 = .ok (.iload_n 1, 1) := by decide +kernel
theorem dX9_lays_56 : decode cX9_lays 56 = .ok (.iconst 0, 1) := by decide +kernel
theorem dX9_lays_57 : decode cX9_lays 57 = .ok (.invokevirtual 103, 3) := by decide +kernel
theorem dX9_lays_60 : decode cX9_lays 60 = .ok (.goto 11, 3) := by decide +kernel
theorem dX9_lays_63 : decode cX9_lays 63 = .ok (.iconst 2, 1) := by decide +kernel
theorem dX9_lays_64 : decode cX9_lays 64 = .ok (.aload_n 0, 1) := by decide +kernel
theorem dX9_lays_65 : decode cX9_lays 65 = .ok (.iload_n 1, 1) := by decide +kernel
theorem dX9_lays_66 : decode cX9_lays 66 = .ok (.iconst 2, 1) := by decide +kernel
theorem dX9_lays_67 : decode cX9_lays 67 = .ok (.invokevirtual 103, 3) := by decide +kernel
theorem dX9_lays_70 : decode cX9_lays 70 = .ok (.imul, 1) := by decide +kernel
theorem dX9_lays_71 : decode cX9_lays 71 = .ok (.if_icmp .ge 37, 3) := by decide +kernel
theorem dX9_lays_74 : decode cX9_lays 74 = .ok (.iload 4, 2) := by decide +kernel
theorem dX9_lays_76 : decode cX9_lays 76 = .ok (.iload_n 2, 1) := by decide +kernel
theorem dX9_lays_77 : decode cX9_lays 77 = .ok (.ifCond .eq 14, 3) := by decide +kernel
theorem dX9_lays_80 : decode cX9_lays 80 = .ok (.aload_n 0, 1) := by decide +kernel
theorem dX9_lays_81 : decode cX9_lays 81 = .ok (.iload_n 1, 1) := by decide +kernel
theorem dX9_lays_82 : decode cX9_lays 82 = .ok (.iload 5, 2) := by decide +kernel
theorem dX9_lays_84 : decode cX9_lays 84 = .ok (.iload_n 3, 1) := by decide +kernel
theorem dX9_lays_85 : decode cX9_lays 85 = .ok (.invokevirtual 112, 3) := by decide +kernel
theorem dX9_lays_88 : decode cX9_lays 88 = .ok (.goto 11, 3) := by decide +kernel
theorem dX9_lays_91 : decode cX9_lays 91 = .ok (.aload_n 0, 1) := by decide +kernel
theorem dX9_lays_92 : decode cX9_lays 92 = .ok (.iload_n 1, 1) := by decide +kernel
theorem dX9_lays_93 : decode cX9_lays 93 = .ok (.iload_n 3, 1) := by decide +kernel
theorem dX9_lays_94 : decode cX9_lays 94 = .ok (.iload 5, 2) := by decide +kernel
theorem dX9_lays_96 : decode cX9_lays 96 = .ok (.invokevirtual 112, 3) := by decide +kernel
theorem dX9_lays_99 : decode cX9_lays 99 = .ok (.iadd, 1) := by decide +kernel
theorem dX9_lays_100 : decode cX9_lays 100 = .ok (.istore 4, 2) := by decide +kernel
theorem dX9_lays_102 : decode cX9_lays 102 = .ok (.iinc 5 1, 3) := by decide +kernel
theorem dX9_lays_105 : decode cX9_lays 105 = .ok (.goto (-57), 3) := by decide +kernel
theorem dX9_lays_108 : decode cX9_lays 108 = .ok (.aload_n 0, 1) := by decide +kernel
theorem dX9_lays_109 : decode cX9_lays 109 = .ok (.getfield 33, 3) := by decide +kernel
theorem dX9_lays_112 : decode cX9_lays 112 = .ok (.iload_n 3, 1) := by decide +kernel
theorem dX9_lays_113 : decode cX9_lays 113 = .ok (.iconst 1, 1) := by decide +kernel
theorem dX9_lays_114 : decode cX9_lays 114 = .ok (.iadd, 1) := by decide +kernel
theorem dX9_lays_115 : decode cX9_lays 115 = .ok (.aload_n 0, 1) := by decide +kernel
theorem dX9_lays_116 : decode cX9_lays 116 = .ok (.getfield 33, 3) := by decide +kernel
theorem dX9_lays_119 : decode cX9_lays 119 = .ok (.iload_n 3, 1) := by decide +kernel
theorem dX9_lays_120 : decode cX9_lays 120 = .ok (.iaload, 1) := by decide +kernel
theorem dX9_lays_121 : decode cX9_lays 121 = .ok (.iload 4, 2) := by decide +kernel
theorem dX9_lays_123 : decode cX9_lays 123 = .ok (.iadd, 1) := by decide +kernel
theorem dX9_lays_124 : decode cX9_lays 124 = .ok (.iastore, 1) := by decide +kernel
theorem dX9_lays_125 : decode cX9_lays 125 = .ok (.iinc 3 1, 3) := by decide +kernel
theorem dX9_lays_128 : decode cX9_lays 128 = .ok (.goto (-94), 3) := by decide +kernel
theorem dX9_lays_131 : decode cX9_lays 131 = .ok (.return_, 1) := by decide +kernel
theorem dX9_laysNow_0 : decode cX9_laysNow 0 = .ok (.aload_n 0, 1) := by decide +kernel
theorem dX9_laysNow_1 : decode cX9_laysNow 1 = .ok (.iload_n 1, 1) := by decide +kernel
theorem dX9_laysNow_2 : decode cX9_laysNow 2 = .ok (.aload_n 0, 1) := by decide +kernel
theorem dX9_laysNow_3 : decode cX9_laysNow 3 = .ok (.iload_n 1, 1) := by decide +kernel
theorem dX9_laysNow_4 : decode cX9_laysNow 4 = .ok (.iconst 3, 1) := by decide +kernel
theorem dX9_laysNow_5 : decode cX9_laysNow 5 = .ok (.invokevirtual 103, 3) := by decide +kernel
theorem dX9_laysNow_8 : decode cX9_laysNow 8 = .ok (.iconst 1, 1) := by decide +kernel
theorem dX9_laysNow_9 : decode cX9_laysNow 9 = .ok (.if_icmp .ne 7, 3) := by decide +kernel
theorem dX9_laysNow_12 : decode cX9_laysNow 12 = .ok (.iconst 1, 1) := by decide +kernel
theorem dX9_laysNow_13 : decode cX9_laysNow 13 = .ok (.goto 4, 3) := by decide +kernel
theorem dX9_laysNow_16 : decode cX9_laysNow 16 = .ok (.iconst 0, 1) := by decide +kernel
theorem dX9_laysNow_17 : decode cX9_laysNow 17 = .ok (.invokevirtual 116, 3) := by decide +kernel
theorem dX9_laysNow_20 : decode cX9_laysNow 20 = .ok (.return_, 1) := by decide +kernel
theorem dX9_dipOf_0 : decode cX9_dipOf 0 = .ok (.iconst 0, 1) := by decide +kernel
theorem dX9_dipOf_1 : decode cX9_dipOf 1 = .ok (.istore_n 2, 1) := by decide +kernel
theorem dX9_dipOf_2 : decode cX9_dipOf 2 = .ok (.aload_n 0, 1) := by decide +kernel
theorem dX9_dipOf_3 : decode cX9_dipOf 3 = .ok (.getfield 33, 3) := by decide +kernel
theorem dX9_dipOf_6 : decode cX9_dipOf 6 = .ok (.iload_n 2, 1) := by decide +kernel
theorem dX9_dipOf_7 : decode cX9_dipOf 7 = .ok (.iaload, 1) := by decide +kernel
theorem dX9_dipOf_8 : decode cX9_dipOf 8 = .ok (.iload_n 1, 1) := by decide +kernel
theorem dX9_dipOf_9 : decode cX9_dipOf 9 = .ok (.if_icmp .ge 9, 3) := by decide +kernel
theorem dX9_dipOf_12 : decode cX9_dipOf 12 = .ok (.iinc 2 1, 3) := by decide +kernel
theorem dX9_dipOf_15 : decode cX9_dipOf 15 = .ok (.goto (-13), 3) := by decide +kernel
theorem dX9_dipOf_18 : decode cX9_dipOf 18 = .ok (.iload_n 2, 1) := by decide +kernel
theorem dX9_dipOf_19 : decode cX9_dipOf 19 = .ok (.ireturn, 1) := by decide +kernel
end
section
theorem dX9_hold_0 : decode cX9_hold 0 = .ok (.aload_n 0, 1) := by decide +kernel
theorem dX9_hold_1 : decode cX9_hold 1 = .ok (.iload_n 1, 1) := by decide +kernel
theorem dX9_hold_2 : decode cX9_hold 2 = .ok (.invokevirtual 120, 3) := by decide +kernel
theorem dX9_hold_5 : decode cX9_hold 5 = .ok (.aload_n 0, 1) := by decide +kernel
theorem dX9_hold_6 : decode cX9_hold 6 = .ok (.getfield 33, 3) := by decide +kernel
theorem dX9_hold_9 : decode cX9_hold 9 = .ok (.aload_n 0, 1) := by decide +kernel
theorem dX9_hold_10 : decode cX9_hold 10 = .ok (.getfield 109, 3) := by decide +kernel
theorem dX9_hold_13 : decode cX9_hold 13 = .ok (.iaload, 1) := by decide +kernel
theorem dX9_hold_14 : decode cX9_hold 14 = .ok (.ireturn, 1) := by decide +kernel
theorem dX9_notes_0 : decode cX9_notes 0 = .ok (.aload_n 0, 1) := by decide +kernel
theorem dX9_notes_1 : decode cX9_notes 1 = .ok (.getfield 124, 3) := by decide +kernel
theorem dX9_notes_4 : decode cX9_notes 4 = .ok (.bipush 8, 2) := by decide +kernel
theorem dX9_notes_6 : decode cX9_notes 6 = .ok (.if_icmp .ne 43, 3) := by decide +kernel
theorem dX9_notes_9 : decode cX9_notes 9 = .ok (.iconst 0, 1) := by decide +kernel
theorem dX9_notes_10 : decode cX9_notes 10 = .ok (.istore_n 1, 1) := by decide +kernel
theorem dX9_notes_11 : decode cX9_notes 11 = .ok (.iload_n 1, 1) := by decide +kernel
theorem dX9_notes_12 : decode cX9_notes 12 = .ok (.sipush 175, 3) := by decide +kernel
theorem dX9_notes_15 : decode cX9_notes 15 = .ok (.if_icmp .ge 24, 3) := by decide +kernel
theorem dX9_notes_18 : decode cX9_notes 18 = .ok (.aload_n 0, 1) := by decide +kernel
theorem dX9_notes_19 : decode cX9_notes 19 = .ok (.getfield 16, 3) := by decide +kernel
theorem dX9_notes_22 : decode cX9_notes 22 = .ok (.iload_n 1, 1) := by decide +kernel
theorem dX9_notes_23 : decode cX9_notes 23 = .ok (.aload_n 0, 1) := by decide +kernel
theorem dX9_notes_24 : decode cX9_notes 24 = .ok (.getfield 16, 3) := by decide +kernel
theorem dX9_notes_27 : decode cX9_notes 27 = .ok (.iload_n 1, 1) := by decide +kernel
theorem dX9_notes_28 : decode cX9_notes 28 = .ok (.bipush 25, 2) := by decide +kernel
theorem dX9_notes_30 : decode cX9_notes 30 = .ok (.iadd, 1) := by decide +kernel
theorem dX9_notes_31 : decode cX9_notes 31 = .ok (.iaload, 1) := by decide +kernel
theorem dX9_notes_32 : decode cX9_notes 32 = .ok (.iastore, 1) := by decide +kernel
theorem dX9_notes_33 : decode cX9_notes 33 = .ok (.iinc 1 1, 3) := by decide +kernel
theorem dX9_notes_36 : decode cX9_notes 36 = .ok (.goto (-25), 3) := by decide +kernel
theorem dX9_notes_39 : decode cX9_notes 39 = .ok (.aload_n 0, 1) := by decide +kernel
theorem dX9_notes_40 : decode cX9_notes 40 = .ok (.dup, 1) := by decide +kernel
theorem dX9_notes_41 : decode cX9_notes 41 = .ok (.getfield 124, 3) := by decide +kernel
theorem dX9_notes_44 : decode cX9_notes 44 = .ok (.iconst 1, 1) := by decide +kernel
theorem dX9_notes_45 : decode cX9_notes 45 = .ok (.isub, 1) := by decide +kernel
theorem dX9_notes_46 : decode cX9_notes 46 = .ok (.putfield 124, 3) := by decide +kernel
theorem dX9_notes_49 : decode cX9_notes 49 = .ok (.iconst 0, 1) := by decide +kernel
theorem dX9_notes_50 : decode cX9_notes 50 = .ok (.istore_n 1, 1) := by decide +kernel
theorem dX9_notes_51 : decode cX9_notes 51 = .ok (.iload_n 1, 1) := by decide +kernel
theorem dX9_notes_52 : decode cX9_notes 52 = .ok (.bipush 25, 2) := by decide +kernel
theorem dX9_notes_54 : decode cX9_notes 54 = .ok (.if_icmp .ge 29, 3) := by decide +kernel
theorem dX9_notes_57 : decode cX9_notes 57 = .ok (.aload_n 0, 1) := by decide +kernel
theorem dX9_notes_58 : decode cX9_notes 58 = .ok (.getfield 16, 3) := by decide +kernel
theorem dX9_notes_61 : decode cX9_notes 61 = .ok (.bipush 25, 2) := by decide +kernel
theorem dX9_notes_63 : decode cX9_notes 63 = .ok (.aload_n 0, 1) := by decide +kernel
theorem dX9_notes_64 : decode cX9_notes 64 = .ok (.getfield 124, 3) := by decide +kernel
theorem dX9_notes_67 : decode cX9_notes 67 = .ok (.imul, 1) := by decide +kernel
theorem dX9_notes_68 : decode cX9_notes 68 = .ok (.iload_n 1, 1) := by decide +kernel
theorem dX9_notes_69 : decode cX9_notes 69 = .ok (.iadd, 1) := by decide +kernel
theorem dX9_notes_70 : decode cX9_notes 70 = .ok (.aload_n 0, 1) := by decide +kernel
theorem dX9_notes_71 : decode cX9_notes 71 = .ok (.getfield 7, 3) := by decide +kernel
theorem dX9_notes_74 : decode cX9_notes 74 = .ok (.iload_n 1, 1) := by decide +kernel
theorem dX9_notes_75 : decode cX9_notes 75 = .ok (.iaload, 1) := by decide +kernel
theorem dX9_notes_76 : decode cX9_notes 76 = .ok (.iastore, 1) := by decide +kernel
theorem dX9_notes_77 : decode cX9_notes 77 = .ok (.iinc 1 1, 3) := by decide +kernel
theorem dX9_notes_80 : decode cX9_notes 80 = .ok (.goto (-29), 3) := by decide +kernel
theorem dX9_notes_83 : decode cX9_notes 83 = .ok (.aload_n 0, 1) := by decide +kernel
theorem dX9_notes_84 : decode cX9_notes 84 = .ok (.dup, 1) := by decide +kernel
theorem dX9_notes_85 : decode cX9_notes 85 = .ok (.getfield 124, 3) := by decide +kernel
theorem dX9_notes_88 : decode cX9_notes 88 = .ok (.iconst 1, 1) := by decide +kernel
theorem dX9_notes_89 : decode cX9_notes 89 = .ok (.iadd, 1) := by decide +kernel
theorem dX9_notes_90 : decode cX9_notes 90 = .ok (.putfield 124, 3) := by decide +kernel
theorem dX9_notes_93 : decode cX9_notes 93 = .ok (.return_, 1) := by decide +kernel
theorem dX9_fills_0 : decode cX9_fills 0 = .ok (.aload_n 0, 1) := by decide +kernel
theorem dX9_fills_1 : decode cX9_fills 1 = .ok (.iconst 0, 1) := by decide +kernel
theorem dX9_fills_2 : decode cX9_fills 2 = .ok (.putfield 39, 3) := by decide +kernel
theorem dX9_fills_5 : decode cX9_fills 5 = .ok (.aload_n 0, 1) := by decide +kernel
theorem dX9_fills_6 : decode cX9_fills 6 = .ok (.iload_n 1, 1) := by decide +kernel
theorem dX9_fills_7 : decode cX9_fills 7 = .ok (.invokevirtual 127, 3) := by decide +kernel
theorem dX9_fills_10 : decode cX9_fills 10 = .ok (.ifCond .eq 17, 3) := by decide +kernel
theorem dX9_fills_13 : decode cX9_fills 13 = .ok (.iload_n 2, 1) := by decide +kernel
theorem dX9_fills_14 : decode cX9_fills 14 = .ok (.iconst 1, 1) := by decide +kernel
theorem dX9_fills_15 : decode cX9_fills 15 = .ok (.if_icmp .lt 12, 3) := by decide +kernel
theorem dX9_fills_18 : decode cX9_fills 18 = .ok (.iload_n 3, 1) := by decide +kernel
theorem dX9_fills_19 : decode cX9_fills 19 = .ok (.iconst 0, 1) := by decide +kernel
theorem dX9_fills_20 : decode cX9_fills 20 = .ok (.iload_n 2, 1) := by decide +kernel
theorem dX9_fills_21 : decode cX9_fills 21 = .ok (.invokestatic 43, 3) := by decide +kernel
theorem dX9_fills_24 : decode cX9_fills 24 = .ok (.ifCond .ne 5, 3) := by decide +kernel
theorem dX9_fills_27 : decode cX9_fills 27 = .ok (.iconst (-1), 1) := by decide +kernel
theorem dX9_fills_28 : decode cX9_fills 28 = .ok (.ireturn, 1) := by decide +kernel
theorem dX9_fills_29 : decode cX9_fills 29 = .ok (.iload_n 2, 1) := by decide +kernel
theorem dX9_fills_30 : decode cX9_fills 30 = .ok (.aload_n 0, 1) := by decide +kernel
theorem dX9_fills_31 : decode cX9_fills 31 = .ok (.iload_n 1, 1) := by decide +kernel
theorem dX9_fills_32 : decode cX9_fills 32 = .ok (.invokevirtual 131, 3) := by decide +kernel
theorem dX9_fills_35 : decode cX9_fills 35 = .ok (.aload_n 0, 1) := by decide +kernel
theorem dX9_fills_36 : decode cX9_fills 36 = .ok (.iload_n 1, 1) := by decide +kernel
theorem dX9_fills_37 : decode cX9_fills 37 = .ok (.iconst 4, 1) := by decide +kernel
theorem dX9_fills_38 : decode cX9_fills 38 = .ok (.invokevirtual 103, 3) := by decide +kernel
theorem dX9_fills_41 : decode cX9_fills 41 = .ok (.isub, 1) := by decide +kernel
theorem dX9_fills_42 : decode cX9_fills 42 = .ok (.if_icmp .le 6, 3) := by decide +kernel
theorem dX9_fills_45 : decode cX9_fills 45 = .ok (.bipush (-3), 2) := by decide +kernel
theorem dX9_fills_47 : decode cX9_fills 47 = .ok (.ireturn, 1) := by decide +kernel
theorem dX9_fills_48 : decode cX9_fills 48 = .ok (.aload_n 0, 1) := by decide +kernel
theorem dX9_fills_49 : decode cX9_fills 49 = .ok (.invokevirtual 100, 3) := by decide +kernel
theorem dX9_fills_52 : decode cX9_fills 52 = .ok (.aload_n 0, 1) := by decide +kernel
theorem dX9_fills_53 : decode cX9_fills 53 = .ok (.getfield 7, 3) := by decide +kernel
theorem dX9_fills_56 : decode cX9_fills 56 = .ok (.bipush 6, 2) := by decide +kernel
theorem dX9_fills_58 : decode cX9_fills 58 = .ok (.iload_n 1, 1) := by decide +kernel
theorem dX9_fills_59 : decode cX9_fills 59 = .ok (.imul, 1) := by decide +kernel
theorem dX9_fills_60 : decode cX9_fills 60 = .ok (.iconst 4, 1) := by decide +kernel
theorem dX9_fills_61 : decode cX9_fills 61 = .ok (.iadd, 1) := by decide +kernel
theorem dX9_fills_62 : decode cX9_fills 62 = .ok (.dup2, 1) := by decide +kernel
theorem dX9_fills_63 : decode cX9_fills 63 = .ok (.iaload, 1) := by decide +kernel
theorem dX9_fills_64 : decode cX9_fills 64 = .ok (.iload_n 2, 1) := by decide +kernel
theorem dX9_fills_65 : decode cX9_fills 65 = .ok (.iadd, 1) := by decide +kernel
theorem dX9_fills_66 : decode cX9_fills 66 = .ok (.iastore, 1) := by decide +kernel
theorem dX9_fills_67 : decode cX9_fills 67 = .ok (.aload_n 0, 1) := by decide +kernel
theorem dX9_fills_68 : decode cX9_fills 68 = .ok (.getfield 7, 3) := by decide +kernel
theorem dX9_fills_71 : decode cX9_fills 71 = .ok (.bipush 6, 2) := by decide +kernel
theorem dX9_fills_73 : decode cX9_fills 73 = .ok (.iload_n 1, 1) := by decide +kernel
theorem dX9_fills_74 : decode cX9_fills 74 = .ok (.imul, 1) := by decide +kernel
theorem dX9_fills_75 : decode cX9_fills 75 = .ok (.iconst 5, 1) := by decide +kernel
theorem dX9_fills_76 : decode cX9_fills 76 = .ok (.iadd, 1) := by decide +kernel
theorem dX9_fills_77 : decode cX9_fills 77 = .ok (.dup2, 1) := by decide +kernel
theorem dX9_fills_78 : decode cX9_fills 78 = .ok (.iaload, 1) := by decide +kernel
theorem dX9_fills_79 : decode cX9_fills 79 = .ok (.iload_n 3, 1) := by decide +kernel
theorem dX9_fills_80 : decode cX9_fills 80 = .ok (.iadd, 1) := by decide +kernel
theorem dX9_fills_81 : decode cX9_fills 81 = .ok (.iastore, 1) := by decide +kernel
theorem dX9_fills_82 : decode cX9_fills 82 = .ok (.aload_n 0, 1) := by decide +kernel
theorem dX9_fills_83 : decode cX9_fills 83 = .ok (.iload_n 1, 1) := by decide +kernel
theorem dX9_fills_84 : decode cX9_fills 84 = .ok (.iconst 4, 1) := by decide +kernel
theorem dX9_fills_85 : decode cX9_fills 85 = .ok (.invokevirtual 103, 3) := by decide +kernel
theorem dX9_fills_88 : decode cX9_fills 88 = .ok (.ireturn, 1) := by decide +kernel
theorem dX9_goes_0 : decode cX9_goes 0 = .ok (.aload_n 0, 1) := by decide +kernel
theorem dX9_goes_1 : decode cX9_goes 1 = .ok (.iload_n 1, 1) := by decide +kernel
theorem dX9_goes_2 : decode cX9_goes 2 = .ok (.iconst 5, 1) := by decide +kernel
theorem dX9_goes_3 : decode cX9_goes 3 = .ok (.invokevirtual 103, 3) := by decide +kernel
theorem dX9_goes_6 : decode cX9_goes 6 = .ok (.iload_n 2, 1) := by decide +kernel
theorem dX9_goes_7 : decode cX9_goes 7 = .ok (.imul, 1) := by decide +kernel
theorem dX9_goes_8 : decode cX9_goes 8 = .ok (.aload_n 0, 1) := by decide +kernel
theorem dX9_goes_9 : decode cX9_goes 9 = .ok (.iload_n 1, 1) := by decide +kernel
theorem dX9_goes_10 : decode cX9_goes 10 = .ok (.iconst 4, 1) := by decide +kernel
theorem dX9_goes_11 : decode cX9_goes 11 = .ok (.invokevirtual 103, 3) := by decide +kernel
theorem dX9_goes_14 : decode cX9_goes 14 = .ok (.idiv, 1) := by decide +kernel
theorem dX9_goes_15 : decode cX9_goes 15 = .ok (.istore_n 3, 1) := by decide +kernel
theorem dX9_goes_16 : decode cX9_goes 16 = .ok (.aload_n 0, 1) := by decide +kernel
theorem dX9_goes_17 : decode cX9_goes 17 = .ok (.getfield 7, 3) := by decide +kernel
theorem dX9_goes_20 : decode cX9_goes 20 = .ok (.bipush 6, 2) := by decide +kernel
theorem dX9_goes_22 : decode cX9_goes 22 = .ok (.iload_n 1, 1) := by decide +kernel
theorem dX9_goes_23 : decode cX9_goes 23 = .ok (.imul, 1) := by decide +kernel
theorem dX9_goes_24 : decode cX9_goes 24 = .ok (.iconst 4, 1) := by decide +kernel
theorem dX9_goes_25 : decode cX9_goes 25 = .ok (.iadd, 1) := by decide +kernel
theorem dX9_goes_26 : decode cX9_goes 26 = .ok (.dup2, 1) := by decide +kernel
theorem dX9_goes_27 : decode cX9_goes 27 = .ok (.iaload, 1) := by decide +kernel
theorem dX9_goes_28 : decode cX9_goes 28 = .ok (.iload_n 2, 1) := by decide +kernel
theorem dX9_goes_29 : decode cX9_goes 29 = .ok (.isub, 1) := by decide +kernel
theorem dX9_goes_30 : decode cX9_goes 30 = .ok (.iastore, 1) := by decide +kernel
theorem dX9_goes_31 : decode cX9_goes 31 = .ok (.aload_n 0, 1) := by decide +kernel
theorem dX9_goes_32 : decode cX9_goes 32 = .ok (.getfield 7, 3) := by decide +kernel
theorem dX9_goes_35 : decode cX9_goes 35 = .ok (.bipush 6, 2) := by decide +kernel
theorem dX9_goes_37 : decode cX9_goes 37 = .ok (.iload_n 1, 1) := by decide +kernel
theorem dX9_goes_38 : decode cX9_goes 38 = .ok (.imul, 1) := by decide +kernel
theorem dX9_goes_39 : decode cX9_goes 39 = .ok (.iconst 5, 1) := by decide +kernel
theorem dX9_goes_40 : decode cX9_goes 40 = .ok (.iadd, 1) := by decide +kernel
theorem dX9_goes_41 : decode cX9_goes 41 = .ok (.dup2, 1) := by decide +kernel
theorem dX9_goes_42 : decode cX9_goes 42 = .ok (.iaload, 1) := by decide +kernel
theorem dX9_goes_43 : decode cX9_goes 43 = .ok (.iload_n 3, 1) := by decide +kernel
theorem dX9_goes_44 : decode cX9_goes 44 = .ok (.isub, 1) := by decide +kernel
theorem dX9_goes_45 : decode cX9_goes 45 = .ok (.iastore, 1) := by decide +kernel
theorem dX9_goes_46 : decode cX9_goes 46 = .ok (.iload_n 3, 1) := by decide +kernel
theorem dX9_goes_47 : decode cX9_goes 47 = .ok (.ireturn, 1) := by decide +kernel
theorem dX9_draws_0 : decode cX9_draws 0 = .ok (.aload_n 0, 1) := by decide +kernel
theorem dX9_draws_1 : decode cX9_draws 1 = .ok (.iconst 0, 1) := by decide +kernel
theorem dX9_draws_2 : decode cX9_draws 2 = .ok (.putfield 39, 3) := by decide +kernel
theorem dX9_draws_5 : decode cX9_draws 5 = .ok (.aload_n 0, 1) := by decide +kernel
theorem dX9_draws_6 : decode cX9_draws 6 = .ok (.iload_n 1, 1) := by decide +kernel
theorem dX9_draws_7 : decode cX9_draws 7 = .ok (.invokevirtual 127, 3) := by decide +kernel
theorem dX9_draws_10 : decode cX9_draws 10 = .ok (.ifCond .eq 8, 3) := by decide +kernel
theorem dX9_draws_13 : decode cX9_draws 13 = .ok (.iload_n 2, 1) := by decide +kernel
theorem dX9_draws_14 : decode cX9_draws 14 = .ok (.iconst 1, 1) := by decide +kernel
theorem dX9_draws_15 : decode cX9_draws 15 = .ok (.if_icmp .ge 5, 3) := by decide +kernel
theorem dX9_draws_18 : decode cX9_draws 18 = .ok (.iconst (-1), 1) := by decide +kernel
theorem dX9_draws_19 : decode cX9_draws 19 = .ok (.ireturn, 1) := by decide +kernel
theorem dX9_draws_20 : decode cX9_draws 20 = .ok (.aload_n 0, 1) := by decide +kernel
theorem dX9_draws_21 : decode cX9_draws 21 = .ok (.iload_n 1, 1) := by decide +kernel
theorem dX9_draws_22 : decode cX9_draws 22 = .ok (.iconst 4, 1) := by decide +kernel
theorem dX9_draws_23 : decode cX9_draws 23 = .ok (.invokevirtual 103, 3) := by decide +kernel
theorem dX9_draws_26 : decode cX9_draws 26 = .ok (.iload_n 2, 1) := by decide +kernel
theorem dX9_draws_27 : decode cX9_draws 27 = .ok (.if_icmp .ge 6, 3) := by decide +kernel
theorem dX9_draws_30 : decode cX9_draws 30 = .ok (.bipush (-2), 2) := by decide +kernel
theorem dX9_draws_32 : decode cX9_draws 32 = .ok (.ireturn, 1) := by decide +kernel
theorem dX9_draws_33 : decode cX9_draws 33 = .ok (.aload_n 0, 1) := by decide +kernel
theorem dX9_draws_34 : decode cX9_draws 34 = .ok (.invokevirtual 100, 3) := by decide +kernel
theorem dX9_draws_37 : decode cX9_draws 37 = .ok (.aload_n 0, 1) := by decide +kernel
theorem dX9_draws_38 : decode cX9_draws 38 = .ok (.iload_n 1, 1) := by decide +kernel
theorem dX9_draws_39 : decode cX9_draws 39 = .ok (.iload_n 2, 1) := by decide +kernel
theorem dX9_draws_40 : decode cX9_draws 40 = .ok (.invokevirtual 134, 3) := by decide +kernel
theorem dX9_draws_43 : decode cX9_draws 43 = .ok (.istore_n 3, 1) := by decide +kernel
theorem dX9_draws_44 : decode cX9_draws 44 = .ok (.iload_n 3, 1) := by decide +kernel
theorem dX9_draws_45 : decode cX9_draws 45 = .ok (.ifCond .ge 7, 3) := by decide +kernel
theorem dX9_draws_48 : decode cX9_draws 48 = .ok (.iconst (-1), 1) := by decide +kernel
theorem dX9_draws_49 : decode cX9_draws 49 = .ok (.goto 9, 3) := by decide +kernel
theorem dX9_draws_52 : decode cX9_draws 52 = .ok (.aload_n 0, 1) := by decide +kernel
theorem dX9_draws_53 : decode cX9_draws 53 = .ok (.iload_n 1, 1) := by decide +kernel
theorem dX9_draws_54 : decode cX9_draws 54 = .ok (.iconst 4, 1) := by decide +kernel
theorem dX9_draws_55 : decode cX9_draws 55 = .ok (.invokevirtual 103, 3) := by decide +kernel
theorem dX9_draws_58 : decode cX9_draws 58 = .ok (.ireturn, 1) := by decide +kernel
theorem dX9_pours_0 : decode cX9_pours 0 = .ok (.aload_n 0, 1) := by decide +kernel
theorem dX9_pours_1 : decode cX9_pours 1 = .ok (.iconst 0, 1) := by decide +kernel
theorem dX9_pours_2 : decode cX9_pours 2 = .ok (.putfield 39, 3) := by decide +kernel
theorem dX9_pours_5 : decode cX9_pours 5 = .ok (.aload_n 0, 1) := by decide +kernel
theorem dX9_pours_6 : decode cX9_pours 6 = .ok (.iload_n 1, 1) := by decide +kernel
theorem dX9_pours_7 : decode cX9_pours 7 = .ok (.invokevirtual 127, 3) := by decide +kernel
theorem dX9_pours_10 : decode cX9_pours 10 = .ok (.ifCond .eq 21, 3) := by decide +kernel
theorem dX9_pours_13 : decode cX9_pours 13 = .ok (.aload_n 0, 1) := by decide +kernel
theorem dX9_pours_14 : decode cX9_pours 14 = .ok (.iload_n 2, 1) := by decide +kernel
theorem dX9_pours_15 : decode cX9_pours 15 = .ok (.invokevirtual 127, 3) := by decide +kernel
theorem dX9_pours_18 : decode cX9_pours 18 = .ok (.ifCond .eq 13, 3) := by decide +kernel
theorem dX9_pours_21 : decode cX9_pours 21 = .ok (.iload_n 1, 1) := by decide +kernel
theorem dX9_pours_22 : decode cX9_pours 22 = .ok (.iload_n 2, 1) := by decide +kernel
theorem dX9_pours_23 : decode cX9_pours 23 = .ok (.if_icmp .eq 8, 3) := by decide +kernel
theorem dX9_pours_26 : decode cX9_pours 26 = .ok (.iload_n 3, 1) := by decide +kernel
theorem dX9_pours_27 : decode cX9_pours 27 = .ok (.iconst 1, 1) := by decide +kernel
theorem dX9_pours_28 : decode cX9_pours 28 = .ok (.if_icmp .ge 5, 3) := by decide +kernel
theorem dX9_pours_31 : decode cX9_pours 31 = .ok (.iconst (-1), 1) := by decide +kernel
theorem dX9_pours_32 : decode cX9_pours 32 = .ok (.ireturn, 1) := by decide +kernel
theorem dX9_pours_33 : decode cX9_pours 33 = .ok (.aload_n 0, 1) := by decide +kernel
theorem dX9_pours_34 : decode cX9_pours 34 = .ok (.iload_n 1, 1) := by decide +kernel
theorem dX9_pours_35 : decode cX9_pours 35 = .ok (.iconst 4, 1) := by decide +kernel
theorem dX9_pours_36 : decode cX9_pours 36 = .ok (.invokevirtual 103, 3) := by decide +kernel
theorem dX9_pours_39 : decode cX9_pours 39 = .ok (.iload_n 3, 1) := by decide +kernel
theorem dX9_pours_40 : decode cX9_pours 40 = .ok (.if_icmp .ge 6, 3) := by decide +kernel
theorem dX9_pours_43 : decode cX9_pours 43 = .ok (.bipush (-2), 2) := by decide +kernel
theorem dX9_pours_45 : decode cX9_pours 45 = .ok (.ireturn, 1) := by decide +kernel
theorem dX9_pours_46 : decode cX9_pours 46 = .ok (.iload_n 3, 1) := by decide +kernel
theorem dX9_pours_47 : decode cX9_pours 47 = .ok (.aload_n 0, 1) := by decide +kernel
theorem dX9_pours_48 : decode cX9_pours 48 = .ok (.iload_n 2, 1) := by decide +kernel
theorem dX9_pours_49 : decode cX9_pours 49 = .ok (.invokevirtual 131, 3) := by decide +kernel
theorem dX9_pours_52 : decode cX9_pours 52 = .ok (.aload_n 0, 1) := by decide +kernel
theorem dX9_pours_53 : decode cX9_pours 53 = .ok (.iload_n 2, 1) := by decide +kernel
theorem dX9_pours_54 : decode cX9_pours 54 = .ok (.iconst 4, 1) := by decide +kernel
theorem dX9_pours_55 : decode cX9_pours 55 = .ok (.invokevirtual 103, 3) := by decide +kernel
theorem dX9_pours_58 : decode cX9_pours 58 = .ok (.isub, 1) := by decide +kernel
theorem dX9_pours_59 : decode cX9_pours 59 = .ok (.if_icmp .le 6, 3) := by decide +kernel
theorem dX9_pours_62 : decode cX9_pours 62 = .ok (.bipush (-3), 2) := by decide +kernel
theorem dX9_pours_64 : decode cX9_pours 64 = .ok (.ireturn, 1) := by decide +kernel
theorem dX9_pours_65 : decode cX9_pours 65 = .ok (.aload_n 0, 1) := by decide +kernel
theorem dX9_pours_66 : decode cX9_pours 66 = .ok (.invokevirtual 100, 3) := by decide +kernel
theorem dX9_pours_69 : decode cX9_pours 69 = .ok (.aload_n 0, 1) := by decide +kernel
theorem dX9_pours_70 : decode cX9_pours 70 = .ok (.getfield 7, 3) := by decide +kernel
theorem dX9_pours_73 : decode cX9_pours 73 = .ok (.bipush 6, 2) := by decide +kernel
theorem dX9_pours_75 : decode cX9_pours 75 = .ok (.iload_n 2, 1) := by decide +kernel
theorem dX9_pours_76 : decode cX9_pours 76 = .ok (.imul, 1) := by decide +kernel
theorem dX9_pours_77 : decode cX9_pours 77 = .ok (.iconst 5, 1) := by decide +kernel
theorem dX9_pours_78 : decode cX9_pours 78 = .ok (.iadd, 1) := by decide +kernel
theorem dX9_pours_79 : decode cX9_pours 79 = .ok (.dup2, 1) := by decide +kernel
theorem dX9_pours_80 : decode cX9_pours 80 = .ok (.iaload, 1) := by decide +kernel
theorem dX9_pours_81 : decode cX9_pours 81 = .ok (.aload_n 0, 1) := by decide +kernel
theorem dX9_pours_82 : decode cX9_pours 82 = .ok (.iload_n 1, 1) := by decide +kernel
theorem dX9_pours_83 : decode cX9_pours 83 = .ok (.iload_n 3, 1) := by decide +kernel
theorem dX9_pours_84 : decode cX9_pours 84 = .ok (.invokevirtual 134, 3) := by decide +kernel
theorem dX9_pours_87 : decode cX9_pours 87 = .ok (.iadd, 1) := by decide +kernel
theorem dX9_pours_88 : decode cX9_pours 88 = .ok (.iastore, 1) := by decide +kernel
theorem dX9_pours_89 : decode cX9_pours 89 = .ok (.aload_n 0, 1) := by decide +kernel
theorem dX9_pours_90 : decode cX9_pours 90 = .ok (.getfield 7, 3) := by decide +kernel
theorem dX9_pours_93 : decode cX9_pours 93 = .ok (.bipush 6, 2) := by decide +kernel
theorem dX9_pours_95 : decode cX9_pours 95 = .ok (.iload_n 2, 1) := by decide +kernel
theorem dX9_pours_96 : decode cX9_pours 96 = .ok (.imul, 1) := by decide +kernel
theorem dX9_pours_97 : decode cX9_pours 97 = .ok (.iconst 4, 1) := by decide +kernel
theorem dX9_pours_98 : decode cX9_pours 98 = .ok (.iadd, 1) := by decide +kernel
theorem dX9_pours_99 : decode cX9_pours 99 = .ok (.dup2, 1) := by decide +kernel
theorem dX9_pours_100 : decode cX9_pours 100 = .ok (.iaload, 1) := by decide +kernel
theorem dX9_pours_101 : decode cX9_pours 101 = .ok (.iload_n 3, 1) := by decide +kernel
theorem dX9_pours_102 : decode cX9_pours 102 = .ok (.iadd, 1) := by decide +kernel
theorem dX9_pours_103 : decode cX9_pours 103 = .ok (.iastore, 1) := by decide +kernel
theorem dX9_pours_104 : decode cX9_pours 104 = .ok (.aload_n 0, 1) := by decide +kernel
theorem dX9_pours_105 : decode cX9_pours 105 = .ok (.iload_n 2, 1) := by decide +kernel
theorem dX9_pours_106 : decode cX9_pours 106 = .ok (.iconst 4, 1) := by decide +kernel
theorem dX9_pours_107 : decode cX9_pours 107 = .ok (.invokevirtual 103, 3) := by decide +kernel
theorem dX9_pours_110 : decode cX9_pours 110 = .ok (.ireturn, 1) := by decide +kernel
theorem dX9_turnsOver_0 : decode cX9_turnsOver 0 = .ok (.aload_n 0, 1) := by decide +kernel
theorem dX9_turnsOver_1 : decode cX9_turnsOver 1 = .ok (.iconst 0, 1) := by decide +kernel
theorem dX9_turnsOver_2 : decode cX9_turnsOver 2 = .ok (.putfield 39, 3) := by decide +kernel
theorem dX9_turnsOver_5 : decode cX9_turnsOver 5 = .ok (.aload_n 0, 1) := by decide +kernel
theorem dX9_turnsOver_6 : decode cX9_turnsOver 6 = .ok (.iload_n 1, 1) := by decide +kernel
theorem dX9_turnsOver_7 : decode cX9_turnsOver 7 = .ok (.invokevirtual 127, 3) := by decide +kernel
theorem dX9_turnsOver_10 : decode cX9_turnsOver 10 = .ok (.ifCond .ne 5, 3) := by decide +kernel
theorem dX9_turnsOver_13 : decode cX9_turnsOver 13 = .ok (.iconst (-1), 1) := by decide +kernel
theorem dX9_turnsOver_14 : decode cX9_turnsOver 14 = .ok (.ireturn, 1) := by decide +kernel
theorem dX9_turnsOver_15 : decode cX9_turnsOver 15 = .ok (.aload_n 0, 1) := by decide +kernel
theorem dX9_turnsOver_16 : decode cX9_turnsOver 16 = .ok (.invokevirtual 100, 3) := by decide +kernel
theorem dX9_turnsOver_19 : decode cX9_turnsOver 19 = .ok (.aload_n 0, 1) := by decide +kernel
theorem dX9_turnsOver_20 : decode cX9_turnsOver 20 = .ok (.getfield 7, 3) := by decide +kernel
theorem dX9_turnsOver_23 : decode cX9_turnsOver 23 = .ok (.bipush 6, 2) := by decide +kernel
theorem dX9_turnsOver_25 : decode cX9_turnsOver 25 = .ok (.iload_n 1, 1) := by decide +kernel
theorem dX9_turnsOver_26 : decode cX9_turnsOver 26 = .ok (.imul, 1) := by decide +kernel
theorem dX9_turnsOver_27 : decode cX9_turnsOver 27 = .ok (.iconst 3, 1) := by decide +kernel
theorem dX9_turnsOver_28 : decode cX9_turnsOver 28 = .ok (.iadd, 1) := by decide +kernel
theorem dX9_turnsOver_29 : decode cX9_turnsOver 29 = .ok (.iconst 1, 1) := by decide +kernel
theorem dX9_turnsOver_30 : decode cX9_turnsOver 30 = .ok (.aload_n 0, 1) := by decide +kernel
theorem dX9_turnsOver_31 : decode cX9_turnsOver 31 = .ok (.iload_n 1, 1) := by decide +kernel
theorem dX9_turnsOver_32 : decode cX9_turnsOver 32 = .ok (.iconst 3, 1) := by decide +kernel
theorem dX9_turnsOver_33 : decode cX9_turnsOver 33 = .ok (.invokevirtual 103, 3) := by decide +kernel
theorem dX9_turnsOver_36 : decode cX9_turnsOver 36 = .ok (.isub, 1) := by decide +kernel
theorem dX9_turnsOver_37 : decode cX9_turnsOver 37 = .ok (.iastore, 1) := by decide +kernel
theorem dX9_turnsOver_38 : decode cX9_turnsOver 38 = .ok (.aload_n 0, 1) := by decide +kernel
theorem dX9_turnsOver_39 : decode cX9_turnsOver 39 = .ok (.iload_n 1, 1) := by decide +kernel
theorem dX9_turnsOver_40 : decode cX9_turnsOver 40 = .ok (.iconst 3, 1) := by decide +kernel
theorem dX9_turnsOver_41 : decode cX9_turnsOver 41 = .ok (.invokevirtual 103, 3) := by decide +kernel
theorem dX9_turnsOver_44 : decode cX9_turnsOver 44 = .ok (.ireturn, 1) := by decide +kernel
theorem dX9_undo_0 : decode cX9_undo 0 = .ok (.aload_n 0, 1) := by decide +kernel
theorem dX9_undo_1 : decode cX9_undo 1 = .ok (.iconst 0, 1) := by decide +kernel
theorem dX9_undo_2 : decode cX9_undo 2 = .ok (.putfield 39, 3) := by decide +kernel
theorem dX9_undo_5 : decode cX9_undo 5 = .ok (.aload_n 0, 1) := by decide +kernel
theorem dX9_undo_6 : decode cX9_undo 6 = .ok (.getfield 124, 3) := by decide +kernel
theorem dX9_undo_9 : decode cX9_undo 9 = .ok (.ifCond .ne 6, 3) := by decide +kernel
theorem dX9_undo_12 : decode cX9_undo 12 = .ok (.bipush (-2), 2) := by decide +kernel
theorem dX9_undo_14 : decode cX9_undo 14 = .ok (.ireturn, 1) := by decide +kernel
theorem dX9_undo_15 : decode cX9_undo 15 = .ok (.aload_n 0, 1) := by decide +kernel
theorem dX9_undo_16 : decode cX9_undo 16 = .ok (.dup, 1) := by decide +kernel
theorem dX9_undo_17 : decode cX9_undo 17 = .ok (.getfield 124, 3) := by decide +kernel
theorem dX9_undo_20 : decode cX9_undo 20 = .ok (.iconst 1, 1) := by decide +kernel
theorem dX9_undo_21 : decode cX9_undo 21 = .ok (.isub, 1) := by decide +kernel
theorem dX9_undo_22 : decode cX9_undo 22 = .ok (.putfield 124, 3) := by decide +kernel
theorem dX9_undo_25 : decode cX9_undo 25 = .ok (.iconst 0, 1) := by decide +kernel
theorem dX9_undo_26 : decode cX9_undo 26 = .ok (.istore_n 1, 1) := by decide +kernel
theorem dX9_undo_27 : decode cX9_undo 27 = .ok (.iload_n 1, 1) := by decide +kernel
theorem dX9_undo_28 : decode cX9_undo 28 = .ok (.bipush 25, 2) := by decide +kernel
theorem dX9_undo_30 : decode cX9_undo 30 = .ok (.if_icmp .ge 29, 3) := by decide +kernel
theorem dX9_undo_33 : decode cX9_undo 33 = .ok (.aload_n 0, 1) := by decide +kernel
theorem dX9_undo_34 : decode cX9_undo 34 = .ok (.getfield 7, 3) := by decide +kernel
theorem dX9_undo_37 : decode cX9_undo 37 = .ok (.iload_n 1, 1) := by decide +kernel
theorem dX9_undo_38 : decode cX9_undo 38 = .ok (.aload_n 0, 1) := by decide +kernel
theorem dX9_undo_39 : decode cX9_undo 39 = .ok (.getfield 16, 3) := by decide +kernel
theorem dX9_undo_42 : decode cX9_undo 42 = .ok (.bipush 25, 2) := by decide +kernel
theorem dX9_undo_44 : decode cX9_undo 44 = .ok (.aload_n 0, 1) := by decide +kernel
theorem dX9_undo_45 : decode cX9_undo 45 = .ok (.getfield 124, 3) := by decide +kernel
theorem dX9_undo_48 : decode cX9_undo 48 = .ok (.imul, 1) := by decide +kernel
theorem dX9_undo_49 : decode cX9_undo 49 = .ok (.iload_n 1, 1) := by decide +kernel
theorem dX9_undo_50 : decode cX9_undo 50 = .ok (.iadd, 1) := by decide +kernel
theorem dX9_undo_51 : decode cX9_undo 51 = .ok (.iaload, 1) := by decide +kernel
theorem dX9_undo_52 : decode cX9_undo 52 = .ok (.iastore, 1) := by decide +kernel
theorem dX9_undo_53 : decode cX9_undo 53 = .ok (.iinc 1 1, 3) := by decide +kernel
theorem dX9_undo_56 : decode cX9_undo 56 = .ok (.goto (-29), 3) := by decide +kernel
theorem dX9_undo_59 : decode cX9_undo 59 = .ok (.aload_n 0, 1) := by decide +kernel
theorem dX9_undo_60 : decode cX9_undo 60 = .ok (.getfield 124, 3) := by decide +kernel
theorem dX9_undo_63 : decode cX9_undo 63 = .ok (.ireturn, 1) := by decide +kernel
theorem dX9_strength_0 : decode cX9_strength 0 = .ok (.aload_n 0, 1) := by decide +kernel
theorem dX9_strength_1 : decode cX9_strength 1 = .ok (.iload_n 1, 1) := by decide +kernel
theorem dX9_strength_2 : decode cX9_strength 2 = .ok (.iconst 5, 1) := by decide +kernel
theorem dX9_strength_3 : decode cX9_strength 3 = .ok (.invokevirtual 103, 3) := by decide +kernel
theorem dX9_strength_6 : decode cX9_strength 6 = .ok (.i2f, 1) := by decide +kernel
theorem dX9_strength_7 : decode cX9_strength 7 = .ok (.aload_n 0, 1) := by decide +kernel
theorem dX9_strength_8 : decode cX9_strength 8 = .ok (.iload_n 1, 1) := by decide +kernel
theorem dX9_strength_9 : decode cX9_strength 9 = .ok (.iconst 4, 1) := by decide +kernel
theorem dX9_strength_10 : decode cX9_strength 10 = .ok (.invokevirtual 103, 3) := by decide +kernel
theorem dX9_strength_13 : decode cX9_strength 13 = .ok (.i2f, 1) := by decide +kernel
theorem dX9_strength_14 : decode cX9_strength 14 = .ok (.fdiv, 1) := by decide +kernel
theorem dX9_strength_15 : decode cX9_strength 15 = .ok (.freturn, 1) := by decide +kernel
theorem dX9_cask_0 : decode cX9_cask 0 = .ok (.aload_n 0, 1) := by decide +kernel
theorem dX9_cask_1 : decode cX9_cask 1 = .ok (.iconst 0, 1) := by decide +kernel
theorem dX9_cask_2 : decode cX9_cask 2 = .ok (.putfield 39, 3) := by decide +kernel
theorem dX9_cask_5 : decode cX9_cask 5 = .ok (.aload_n 0, 1) := by decide +kernel
theorem dX9_cask_6 : decode cX9_cask 6 = .ok (.iload_n 1, 1) := by decide +kernel
theorem dX9_cask_7 : decode cX9_cask 7 = .ok (.invokevirtual 127, 3) := by decide +kernel
theorem dX9_cask_10 : decode cX9_cask 10 = .ok (.ifCond .eq 13, 3) := by decide +kernel
theorem dX9_cask_13 : decode cX9_cask 13 = .ok (.iload_n 2, 1) := by decide +kernel
theorem dX9_cask_14 : decode cX9_cask 14 = .ok (.iconst 0, 1) := by decide +kernel
theorem dX9_cask_15 : decode cX9_cask 15 = .ok (.bipush 8, 2) := by decide +kernel
theorem dX9_cask_17 : decode cX9_cask 17 = .ok (.invokestatic 43, 3) := by decide +kernel
theorem dX9_cask_20 : decode cX9_cask 20 = .ok (.ifCond .ne 5, 3) := by decide +kernel
theorem dX9_cask_23 : decode cX9_cask 23 = .ok (.iconst (-1), 1) := by decide +kernel
theorem dX9_cask_24 : decode cX9_cask 24 = .ok (.ireturn, 1) := by decide +kernel
theorem dX9_cask_25 : decode cX9_cask 25 = .ok (.aload_n 0, 1) := by decide +kernel
theorem dX9_cask_26 : decode cX9_cask 26 = .ok (.iload_n 1, 1) := by decide +kernel
theorem dX9_cask_27 : decode cX9_cask 27 = .ok (.invokevirtual 120, 3) := by decide +kernel
theorem dX9_cask_30 : decode cX9_cask 30 = .ok (.iload_n 2, 1) := by decide +kernel
theorem dX9_cask_31 : decode cX9_cask 31 = .ok (.tableswitch 92 4 8 #[33, 43, 50, 57, 68], 33) := by decide +kernel
theorem dX9_cask_64 : decode cX9_cask 64 = .ok (.aload_n 0, 1) := by decide +kernel
theorem dX9_cask_65 : decode cX9_cask 65 = .ok (.getfield 33, 3) := by decide +kernel
theorem dX9_cask_68 : decode cX9_cask 68 = .ok (.aload_n 0, 1) := by decide +kernel
theorem dX9_cask_69 : decode cX9_cask 69 = .ok (.getfield 109, 3) := by decide +kernel
theorem dX9_cask_72 : decode cX9_cask 72 = .ok (.iaload, 1) := by decide +kernel
theorem dX9_cask_73 : decode cX9_cask 73 = .ok (.ireturn, 1) := by decide +kernel
theorem dX9_cask_74 : decode cX9_cask 74 = .ok (.aload_n 0, 1) := by decide +kernel
theorem dX9_cask_75 : decode cX9_cask 75 = .ok (.iload_n 1, 1) := by decide +kernel
theorem dX9_cask_76 : decode cX9_cask 76 = .ok (.iconst 4, 1) := by decide +kernel
theorem dX9_cask_77 : decode cX9_cask 77 = .ok (.invokevirtual 103, 3) := by decide +kernel
theorem dX9_cask_80 : decode cX9_cask 80 = .ok (.ireturn, 1) := by decide +kernel
theorem dX9_cask_81 : decode cX9_cask 81 = .ok (.aload_n 0, 1) := by decide +kernel
theorem dX9_cask_82 : decode cX9_cask 82 = .ok (.iload_n 1, 1) := by decide +kernel
theorem dX9_cask_83 : decode cX9_cask 83 = .ok (.iconst 5, 1) := by decide +kernel
theorem dX9_cask_84 : decode cX9_cask 84 = .ok (.invokevirtual 103, 3) := by decide +kernel
theorem dX9_cask_87 : decode cX9_cask 87 = .ok (.ireturn, 1) := by decide +kernel
theorem dX9_cask_88 : decode cX9_cask 88 = .ok (.aload_n 0, 1) := by decide +kernel
theorem dX9_cask_89 : decode cX9_cask 89 = .ok (.aload_n 0, 1) := by decide +kernel
theorem dX9_cask_90 : decode cX9_cask 90 = .ok (.iload_n 1, 1) := by decide +kernel
theorem dX9_cask_91 : decode cX9_cask 91 = .ok (.iconst 4, 1) := by decide +kernel
theorem dX9_cask_92 : decode cX9_cask 92 = .ok (.invokevirtual 103, 3) := by decide +kernel
theorem dX9_cask_95 : decode cX9_cask 95 = .ok (.invokevirtual 137, 3) := by decide +kernel
theorem dX9_cask_98 : decode cX9_cask 98 = .ok (.ireturn, 1) := by decide +kernel
theorem dX9_cask_99 : decode cX9_cask 99 = .ok (.aload_n 0, 1) := by decide +kernel
theorem dX9_cask_100 : decode cX9_cask 100 = .ok (.iload_n 1, 1) := by decide +kernel
theorem dX9_cask_101 : decode cX9_cask 101 = .ok (.iconst 4, 1) := by decide +kernel
theorem dX9_cask_102 : decode cX9_cask 102 = .ok (.invokevirtual 103, 3) := by decide +kernel
theorem dX9_cask_105 : decode cX9_cask 105 = .ok (.ifCond .ne 8, 3) := by decide +kernel
theorem dX9_cask_108 : decode cX9_cask 108 = .ok (.bipush (-9), 2) := by decide +kernel
theorem dX9_cask_110 : decode cX9_cask 110 = .ok (.goto 12, 3) := by decide +kernel
theorem dX9_cask_113 : decode cX9_cask 113 = .ok (.ldc 140, 2) := by decide +kernel
theorem dX9_cask_115 : decode cX9_cask 115 = .ok (.aload_n 0, 1) := by decide +kernel
theorem dX9_cask_116 : decode cX9_cask 116 = .ok (.iload_n 1, 1) := by decide +kernel
theorem dX9_cask_117 : decode cX9_cask 117 = .ok (.invokevirtual 141, 3) := by decide +kernel
theorem dX9_cask_120 : decode cX9_cask 120 = .ok (.fmul, 1) := by decide +kernel
theorem dX9_cask_121 : decode cX9_cask 121 = .ok (.f2i, 1) := by decide +kernel
theorem dX9_cask_122 : decode cX9_cask 122 = .ok (.ireturn, 1) := by decide +kernel
theorem dX9_cask_123 : decode cX9_cask 123 = .ok (.aload_n 0, 1) := by decide +kernel
theorem dX9_cask_124 : decode cX9_cask 124 = .ok (.iload_n 1, 1) := by decide +kernel
theorem dX9_cask_125 : decode cX9_cask 125 = .ok (.iload_n 2, 1) := by decide +kernel
theorem dX9_cask_126 : decode cX9_cask 126 = .ok (.invokevirtual 103, 3) := by decide +kernel
theorem dX9_cask_129 : decode cX9_cask 129 = .ok (.ireturn, 1) := by decide +kernel
theorem dX9_slice_0 : decode cX9_slice 0 = .ok (.aload_n 0, 1) := by decide +kernel
theorem dX9_slice_1 : decode cX9_slice 1 = .ok (.iconst 0, 1) := by decide +kernel
theorem dX9_slice_2 : decode cX9_slice 2 = .ok (.putfield 39, 3) := by decide +kernel
theorem dX9_slice_5 : decode cX9_slice 5 = .ok (.aload_n 0, 1) := by decide +kernel
theorem dX9_slice_6 : decode cX9_slice 6 = .ok (.iload_n 1, 1) := by decide +kernel
theorem dX9_slice_7 : decode cX9_slice 7 = .ok (.invokevirtual 127, 3) := by decide +kernel
theorem dX9_slice_10 : decode cX9_slice 10 = .ok (.ifCond .eq 37, 3) := by decide +kernel
theorem dX9_slice_13 : decode cX9_slice 13 = .ok (.iload_n 2, 1) := by decide +kernel
theorem dX9_slice_14 : decode cX9_slice 14 = .ok (.iconst 0, 1) := by decide +kernel
theorem dX9_slice_15 : decode cX9_slice 15 = .ok (.aload_n 0, 1) := by decide +kernel
theorem dX9_slice_16 : decode cX9_slice 16 = .ok (.iload_n 1, 1) := by decide +kernel
theorem dX9_slice_17 : decode cX9_slice 17 = .ok (.iconst 0, 1) := by decide +kernel
theorem dX9_slice_18 : decode cX9_slice 18 = .ok (.invokevirtual 103, 3) := by decide +kernel
theorem dX9_slice_21 : decode cX9_slice 21 = .ok (.iconst 1, 1) := by decide +kernel
theorem dX9_slice_22 : decode cX9_slice 22 = .ok (.isub, 1) := by decide +kernel
theorem dX9_slice_23 : decode cX9_slice 23 = .ok (.invokestatic 43, 3) := by decide +kernel
theorem dX9_slice_26 : decode cX9_slice 26 = .ok (.ifCond .eq 21, 3) := by decide +kernel
theorem dX9_slice_29 : decode cX9_slice 29 = .ok (.iload_n 3, 1) := by decide +kernel
theorem dX9_slice_30 : decode cX9_slice 30 = .ok (.iconst (-1), 1) := by decide +kernel
theorem dX9_slice_31 : decode cX9_slice 31 = .ok (.iconst 2, 1) := by decide +kernel
theorem dX9_slice_32 : decode cX9_slice 32 = .ok (.aload_n 0, 1) := by decide +kernel
theorem dX9_slice_33 : decode cX9_slice 33 = .ok (.iload_n 1, 1) := by decide +kernel
theorem dX9_slice_34 : decode cX9_slice 34 = .ok (.iconst 2, 1) := by decide +kernel
theorem dX9_slice_35 : decode cX9_slice 35 = .ok (.invokevirtual 103, 3) := by decide +kernel
theorem dX9_slice_38 : decode cX9_slice 38 = .ok (.imul, 1) := by decide +kernel
theorem dX9_slice_39 : decode cX9_slice 39 = .ok (.iconst 1, 1) := by decide +kernel
theorem dX9_slice_40 : decode cX9_slice 40 = .ok (.isub, 1) := by decide +kernel
theorem dX9_slice_41 : decode cX9_slice 41 = .ok (.invokestatic 43, 3) := by decide +kernel
theorem dX9_slice_44 : decode cX9_slice 44 = .ok (.ifCond .ne 5, 3) := by decide +kernel
theorem dX9_slice_47 : decode cX9_slice 47 = .ok (.iconst (-1), 1) := by decide +kernel
theorem dX9_slice_48 : decode cX9_slice 48 = .ok (.ireturn, 1) := by decide +kernel
theorem dX9_slice_49 : decode cX9_slice 49 = .ok (.iload_n 3, 1) := by decide +kernel
theorem dX9_slice_50 : decode cX9_slice 50 = .ok (.iconst (-1), 1) := by decide +kernel
theorem dX9_slice_51 : decode cX9_slice 51 = .ok (.if_icmp .ne 12, 3) := by decide +kernel
theorem dX9_slice_54 : decode cX9_slice 54 = .ok (.aload_n 0, 1) := by decide +kernel
theorem dX9_slice_55 : decode cX9_slice 55 = .ok (.iload_n 1, 1) := by decide +kernel
theorem dX9_slice_56 : decode cX9_slice 56 = .ok (.iload_n 2, 1) := by decide +kernel
theorem dX9_slice_57 : decode cX9_slice 57 = .ok (.invokevirtual 106, 3) := by decide +kernel
theorem dX9_slice_60 : decode cX9_slice 60 = .ok (.goto 10, 3) := by decide +kernel
theorem dX9_slice_63 : decode cX9_slice 63 = .ok (.aload_n 0, 1) := by decide +kernel
theorem dX9_slice_64 : decode cX9_slice 64 = .ok (.iload_n 1, 1) := by decide +kernel
theorem dX9_slice_65 : decode cX9_slice 65 = .ok (.iload_n 2, 1) := by decide +kernel
theorem dX9_slice_66 : decode cX9_slice 66 = .ok (.iload_n 3, 1) := by decide +kernel
theorem dX9_slice_67 : decode cX9_slice 67 = .ok (.invokevirtual 112, 3) := by decide +kernel
theorem dX9_slice_70 : decode cX9_slice 70 = .ok (.ireturn, 1) := by decide +kernel
theorem dX9_isHeight_0 : decode cX9_isHeight 0 = .ok (.aload_n 0, 1) := by decide +kernel
theorem dX9_isHeight_1 : decode cX9_isHeight 1 = .ok (.iload_n 1, 1) := by decide +kernel
theorem dX9_isHeight_2 : decode cX9_isHeight 2 = .ok (.invokevirtual 127, 3) := by decide +kernel
theorem dX9_isHeight_5 : decode cX9_isHeight 5 = .ok (.ifCond .ne 5, 3) := by decide +kernel
theorem dX9_isHeight_8 : decode cX9_isHeight 8 = .ok (.iconst 0, 1) := by decide +kernel
theorem dX9_isHeight_9 : decode cX9_isHeight 9 = .ok (.ireturn, 1) := by decide +kernel
theorem dX9_isHeight_10 : decode cX9_isHeight 10 = .ok (.aload_n 0, 1) := by decide +kernel
theorem dX9_isHeight_11 : decode cX9_isHeight 11 = .ok (.iload_n 1, 1) := by decide +kernel
theorem dX9_isHeight_12 : decode cX9_isHeight 12 = .ok (.invokevirtual 120, 3) := by decide +kernel
theorem dX9_isHeight_15 : decode cX9_isHeight 15 = .ok (.iload_n 2, 1) := by decide +kernel
theorem dX9_isHeight_16 : decode cX9_isHeight 16 = .ok (.iconst 0, 1) := by decide +kernel
theorem dX9_isHeight_17 : decode cX9_isHeight 17 = .ok (.aload_n 0, 1) := by decide +kernel
theorem dX9_isHeight_18 : decode cX9_isHeight 18 = .ok (.getfield 109, 3) := by decide +kernel
theorem dX9_isHeight_21 : decode cX9_isHeight 21 = .ok (.invokestatic 43, 3) := by decide +kernel
theorem dX9_isHeight_24 : decode cX9_isHeight 24 = .ok (.ireturn, 1) := by decide +kernel
theorem dX9_under_0 : decode cX9_under 0 = .ok (.aload_n 0, 1) := by decide +kernel
theorem dX9_under_1 : decode cX9_under 1 = .ok (.iconst 0, 1) := by decide +kernel
theorem dX9_under_2 : decode cX9_under 2 = .ok (.putfield 39, 3) := by decide +kernel
theorem dX9_under_5 : decode cX9_under 5 = .ok (.aload_n 0, 1) := by decide +kernel
theorem dX9_under_6 : decode cX9_under 6 = .ok (.iload_n 1, 1) := by decide +kernel
theorem dX9_under_7 : decode cX9_under 7 = .ok (.iload_n 2, 1) := by decide +kernel
theorem dX9_under_8 : decode cX9_under 8 = .ok (.invokevirtual 145, 3) := by decide +kernel
theorem dX9_under_11 : decode cX9_under 11 = .ok (.ifCond .eq 12, 3) := by decide +kernel
theorem dX9_under_14 : decode cX9_under 14 = .ok (.aload_n 0, 1) := by decide +kernel
theorem dX9_under_15 : decode cX9_under 15 = .ok (.getfield 33, 3) := by decide +kernel
theorem dX9_under_18 : decode cX9_under 18 = .ok (.iload_n 2, 1) := by decide +kernel
theorem dX9_under_19 : decode cX9_under 19 = .ok (.iaload, 1) := by decide +kernel
theorem dX9_under_20 : decode cX9_under 20 = .ok (.goto 4, 3) := by decide +kernel
theorem dX9_under_23 : decode cX9_under 23 = .ok (.iconst (-1), 1) := by decide +kernel
theorem dX9_under_24 : decode cX9_under 24 = .ok (.ireturn, 1) := by decide +kernel
theorem dX9_dip_0 : decode cX9_dip 0 = .ok (.aload_n 0, 1) := by decide +kernel
theorem dX9_dip_1 : decode cX9_dip 1 = .ok (.iconst 0, 1) := by decide +kernel
theorem dX9_dip_2 : decode cX9_dip 2 = .ok (.putfield 39, 3) := by decide +kernel
theorem dX9_dip_5 : decode cX9_dip 5 = .ok (.aload_n 0, 1) := by decide +kernel
theorem dX9_dip_6 : decode cX9_dip 6 = .ok (.iload_n 1, 1) := by decide +kernel
theorem dX9_dip_7 : decode cX9_dip 7 = .ok (.invokevirtual 127, 3) := by decide +kernel
theorem dX9_dip_10 : decode cX9_dip 10 = .ok (.ifCond .eq 24, 3) := by decide +kernel
theorem dX9_dip_13 : decode cX9_dip 13 = .ok (.iload_n 2, 1) := by decide +kernel
theorem dX9_dip_14 : decode cX9_dip 14 = .ok (.iconst 0, 1) := by decide +kernel
theorem dX9_dip_15 : decode cX9_dip 15 = .ok (.aload_n 0, 1) := by decide +kernel
theorem dX9_dip_16 : decode cX9_dip 16 = .ok (.iload_n 1, 1) := by decide +kernel
theorem dX9_dip_17 : decode cX9_dip 17 = .ok (.invokevirtual 131, 3) := by decide +kernel
theorem dX9_dip_20 : decode cX9_dip 20 = .ok (.invokestatic 43, 3) := by decide +kernel
theorem dX9_dip_23 : decode cX9_dip 23 = .ok (.ifCond .eq 11, 3) := by decide +kernel
theorem dX9_dip_26 : decode cX9_dip 26 = .ok (.aload_n 0, 1) := by decide +kernel
theorem dX9_dip_27 : decode cX9_dip 27 = .ok (.iload_n 2, 1) := by decide +kernel
theorem dX9_dip_28 : decode cX9_dip 28 = .ok (.invokevirtual 137, 3) := by decide +kernel
theorem dX9_dip_31 : decode cX9_dip 31 = .ok (.goto 4, 3) := by decide +kernel
theorem dX9_dip_34 : decode cX9_dip 34 = .ok (.iconst (-1), 1) := by decide +kernel
theorem dX9_dip_35 : decode cX9_dip 35 = .ok (.ireturn, 1) := by decide +kernel
theorem dX9_stick_0 : decode cX9_stick 0 = .ok (.aload_n 0, 1) := by decide +kernel
theorem dX9_stick_1 : decode cX9_stick 1 = .ok (.iconst 0, 1) := by decide +kernel
theorem dX9_stick_2 : decode cX9_stick 2 = .ok (.putfield 39, 3) := by decide +kernel
theorem dX9_stick_5 : decode cX9_stick 5 = .ok (.aload_n 0, 1) := by decide +kernel
theorem dX9_stick_6 : decode cX9_stick 6 = .ok (.iload_n 1, 1) := by decide +kernel
theorem dX9_stick_7 : decode cX9_stick 7 = .ok (.invokevirtual 127, 3) := by decide +kernel
theorem dX9_stick_10 : decode cX9_stick 10 = .ok (.ifCond .eq 22, 3) := by decide +kernel
theorem dX9_stick_13 : decode cX9_stick 13 = .ok (.iload_n 2, 1) := by decide +kernel
theorem dX9_stick_14 : decode cX9_stick 14 = .ok (.iconst 2, 1) := by decide +kernel
theorem dX9_stick_15 : decode cX9_stick 15 = .ok (.bipush 9, 2) := by decide +kernel
theorem dX9_stick_17 : decode cX9_stick 17 = .ok (.invokestatic 43, 3) := by decide +kernel
theorem dX9_stick_20 : decode cX9_stick 20 = .ok (.ifCond .eq 12, 3) := by decide +kernel
theorem dX9_stick_23 : decode cX9_stick 23 = .ok (.iload_n 3, 1) := by decide +kernel
theorem dX9_stick_24 : decode cX9_stick 24 = .ok (.iconst 1, 1) := by decide +kernel
theorem dX9_stick_25 : decode cX9_stick 25 = .ok (.iload_n 2, 1) := by decide +kernel
theorem dX9_stick_26 : decode cX9_stick 26 = .ok (.invokestatic 43, 3) := by decide +kernel
theorem dX9_stick_29 : decode cX9_stick 29 = .ok (.ifCond .ne 5, 3) := by decide +kernel
theorem dX9_stick_32 : decode cX9_stick 32 = .ok (.iconst (-1), 1) := by decide +kernel
theorem dX9_stick_33 : decode cX9_stick 33 = .ok (.ireturn, 1) := by decide +kernel
theorem dX9_stick_34 : decode cX9_stick 34 = .ok (.aload_n 0, 1) := by decide +kernel
theorem dX9_stick_35 : decode cX9_stick 35 = .ok (.iload_n 1, 1) := by decide +kernel
theorem dX9_stick_36 : decode cX9_stick 36 = .ok (.invokevirtual 131, 3) := by decide +kernel
theorem dX9_stick_39 : decode cX9_stick 39 = .ok (.iload_n 3, 1) := by decide +kernel
theorem dX9_stick_40 : decode cX9_stick 40 = .ok (.imul, 1) := by decide +kernel
theorem dX9_stick_41 : decode cX9_stick 41 = .ok (.istore 4, 2) := by decide +kernel
theorem dX9_stick_43 : decode cX9_stick 43 = .ok (.iconst 0, 1) := by decide +kernel
theorem dX9_stick_44 : decode cX9_stick 44 = .ok (.istore 5, 2) := by decide +kernel
theorem dX9_stick_46 : decode cX9_stick 46 = .ok (.aload_n 0, 1) := by decide +kernel
theorem dX9_stick_47 : decode cX9_stick 47 = .ok (.getfield 33, 3) := by decide +kernel
theorem dX9_stick_50 : decode cX9_stick 50 = .ok (.iload 5, 2) := by decide +kernel
theorem dX9_stick_52 : decode cX9_stick 52 = .ok (.iaload, 1) := by decide +kernel
theorem dX9_stick_53 : decode cX9_stick 53 = .ok (.iload_n 2, 1) := by decide +kernel
theorem dX9_stick_54 : decode cX9_stick 54 = .ok (.imul, 1) := by decide +kernel
theorem dX9_stick_55 : decode cX9_stick 55 = .ok (.iload 4, 2) := by decide +kernel
theorem dX9_stick_57 : decode cX9_stick 57 = .ok (.if_icmp .ge 9, 3) := by decide +kernel
theorem dX9_stick_60 : decode cX9_stick 60 = .ok (.iinc 5 1, 3) := by decide +kernel
theorem dX9_stick_63 : decode cX9_stick 63 = .ok (.goto (-17), 3) := by decide +kernel
theorem dX9_stick_66 : decode cX9_stick 66 = .ok (.iload 5, 2) := by decide +kernel
theorem dX9_stick_68 : decode cX9_stick 68 = .ok (.ireturn, 1) := by decide +kernel
theorem dX9_known_0 : decode cX9_known 0 = .ok (.aload_n 0, 1) := by decide +kernel
theorem dX9_known_1 : decode cX9_known 1 = .ok (.iconst 0, 1) := by decide +kernel
theorem dX9_known_2 : decode cX9_known 2 = .ok (.putfield 39, 3) := by decide +kernel
theorem dX9_known_5 : decode cX9_known 5 = .ok (.aload_n 0, 1) := by decide +kernel
theorem dX9_known_6 : decode cX9_known 6 = .ok (.iload_n 1, 1) := by decide +kernel
theorem dX9_known_7 : decode cX9_known 7 = .ok (.iload_n 2, 1) := by decide +kernel
theorem dX9_known_8 : decode cX9_known 8 = .ok (.invokevirtual 145, 3) := by decide +kernel
theorem dX9_known_11 : decode cX9_known 11 = .ok (.ifCond .eq 12, 3) := by decide +kernel
theorem dX9_known_14 : decode cX9_known 14 = .ok (.iload_n 3, 1) := by decide +kernel
theorem dX9_known_15 : decode cX9_known 15 = .ok (.iconst 0, 1) := by decide +kernel
theorem dX9_known_16 : decode cX9_known 16 = .ok (.iconst 1, 1) := by decide +kernel
theorem dX9_known_17 : decode cX9_known 17 = .ok (.invokestatic 43, 3) := by decide +kernel
theorem dX9_known_20 : decode cX9_known 20 = .ok (.ifCond .ne 5, 3) := by decide +kernel
theorem dX9_known_23 : decode cX9_known 23 = .ok (.iconst (-1), 1) := by decide +kernel
theorem dX9_known_24 : decode cX9_known 24 = .ok (.ireturn, 1) := by decide +kernel
theorem dX9_known_25 : decode cX9_known 25 = .ok (.iload_n 2, 1) := by decide +kernel
theorem dX9_known_26 : decode cX9_known 26 = .ok (.ifCond .ne 7, 3) := by decide +kernel
theorem dX9_known_29 : decode cX9_known 29 = .ok (.iconst 0, 1) := by decide +kernel
theorem dX9_known_30 : decode cX9_known 30 = .ok (.goto 13, 3) := by decide +kernel
theorem dX9_known_33 : decode cX9_known 33 = .ok (.aload_n 0, 1) := by decide +kernel
theorem dX9_known_34 : decode cX9_known 34 = .ok (.getfield 33, 3) := by decide +kernel
theorem dX9_known_37 : decode cX9_known 37 = .ok (.iload_n 2, 1) := by decide +kernel
theorem dX9_known_38 : decode cX9_known 38 = .ok (.iconst 1, 1) := by decide +kernel
theorem dX9_known_39 : decode cX9_known 39 = .ok (.isub, 1) := by decide +kernel
theorem dX9_known_40 : decode cX9_known 40 = .ok (.iaload, 1) := by decide +kernel
theorem dX9_known_41 : decode cX9_known 41 = .ok (.iconst 1, 1) := by decide +kernel
theorem dX9_known_42 : decode cX9_known 42 = .ok (.iadd, 1) := by decide +kernel
theorem dX9_known_43 : decode cX9_known 43 = .ok (.istore 4, 2) := by decide +kernel
theorem dX9_known_45 : decode cX9_known 45 = .ok (.iload 4, 2) := by decide +kernel
theorem dX9_known_47 : decode cX9_known 47 = .ok (.aload_n 0, 1) := by decide +kernel
theorem dX9_known_48 : decode cX9_known 48 = .ok (.getfield 33, 3) := by decide +kernel
theorem dX9_known_51 : decode cX9_known 51 = .ok (.iload_n 2, 1) := by decide +kernel
theorem dX9_known_52 : decode cX9_known 52 = .ok (.iaload, 1) := by decide +kernel
theorem dX9_known_53 : decode cX9_known 53 = .ok (.if_icmp .le 8, 3) := by decide +kernel
theorem dX9_known_56 : decode cX9_known 56 = .ok (.bipush (-9), 2) := by decide +kernel
theorem dX9_known_58 : decode cX9_known 58 = .ok (.goto 18, 3) := by decide +kernel
theorem dX9_known_61 : decode cX9_known 61 = .ok (.iload_n 3, 1) := by decide +kernel
theorem dX9_known_62 : decode cX9_known 62 = .ok (.ifCond .ne 8, 3) := by decide +kernel
theorem dX9_known_65 : decode cX9_known 65 = .ok (.iload 4, 2) := by decide +kernel
theorem dX9_known_67 : decode cX9_known 67 = .ok (.goto 9, 3) := by decide +kernel
theorem dX9_known_70 : decode cX9_known 70 = .ok (.aload_n 0, 1) := by decide +kernel
theorem dX9_known_71 : decode cX9_known 71 = .ok (.getfield 33, 3) := by decide +kernel
theorem dX9_known_74 : decode cX9_known 74 = .ok (.iload_n 2, 1) := by decide +kernel
theorem dX9_known_75 : decode cX9_known 75 = .ok (.iaload, 1) := by decide +kernel
theorem dX9_known_76 : decode cX9_known 76 = .ok (.ireturn, 1) := by decide +kernel
theorem dX9_mostBy_0 : decode cX9_mostBy 0 = .ok (.aload_n 0, 1) := by decide +kernel
theorem dX9_mostBy_1 : decode cX9_mostBy 1 = .ok (.iload_n 1, 1) := by decide +kernel
theorem dX9_mostBy_2 : decode cX9_mostBy 2 = .ok (.aload_n 0, 1) := by decide +kernel
theorem dX9_mostBy_3 : decode cX9_mostBy 3 = .ok (.getfield 33, 3) := by decide +kernel
theorem dX9_mostBy_6 : decode cX9_mostBy 6 = .ok (.iload_n 2, 1) := by decide +kernel
theorem dX9_mostBy_7 : decode cX9_mostBy 7 = .ok (.iaload, 1) := by decide +kernel
theorem dX9_mostBy_8 : decode cX9_mostBy 8 = .ok (.if_icmp .le 14, 3) := by decide +kernel
theorem dX9_mostBy_11 : decode cX9_mostBy 11 = .ok (.iload_n 1, 1) := by decide +kernel
theorem dX9_mostBy_12 : decode cX9_mostBy 12 = .ok (.aload_n 0, 1) := by decide +kernel
theorem dX9_mostBy_13 : decode cX9_mostBy 13 = .ok (.getfield 33, 3) := by decide +kernel
theorem dX9_mostBy_16 : decode cX9_mostBy 16 = .ok (.iload_n 2, 1) := by decide +kernel
theorem dX9_mostBy_17 : decode cX9_mostBy 17 = .ok (.iaload, 1) := by decide +kernel
theorem dX9_mostBy_18 : decode cX9_mostBy 18 = .ok (.isub, 1) := by decide +kernel
theorem dX9_mostBy_19 : decode cX9_mostBy 19 = .ok (.goto 4, 3) := by decide +kernel
theorem dX9_mostBy_22 : decode cX9_mostBy 22 = .ok (.iconst 0, 1) := by decide +kernel
theorem dX9_mostBy_23 : decode cX9_mostBy 23 = .ok (.putfield 149, 3) := by decide +kernel
theorem dX9_mostBy_26 : decode cX9_mostBy 26 = .ok (.aload_n 0, 1) := by decide +kernel
theorem dX9_mostBy_27 : decode cX9_mostBy 27 = .ok (.aload_n 0, 1) := by decide +kernel
theorem dX9_mostBy_28 : decode cX9_mostBy 28 = .ok (.getfield 33, 3) := by decide +kernel
theorem dX9_mostBy_31 : decode cX9_mostBy 31 = .ok (.iload_n 3, 1) := by decide +kernel
theorem dX9_mostBy_32 : decode cX9_mostBy 32 = .ok (.iaload, 1) := by decide +kernel
theorem dX9_mostBy_33 : decode cX9_mostBy 33 = .ok (.iload_n 1, 1) := by decide +kernel
theorem dX9_mostBy_34 : decode cX9_mostBy 34 = .ok (.if_icmp .ge 12, 3) := by decide +kernel
theorem dX9_mostBy_37 : decode cX9_mostBy 37 = .ok (.aload_n 0, 1) := by decide +kernel
theorem dX9_mostBy_38 : decode cX9_mostBy 38 = .ok (.getfield 33, 3) := by decide +kernel
theorem dX9_mostBy_41 : decode cX9_mostBy 41 = .ok (.iload_n 3, 1) := by decide +kernel
theorem dX9_mostBy_42 : decode cX9_mostBy 42 = .ok (.iaload, 1) := by decide +kernel
theorem dX9_mostBy_43 : decode cX9_mostBy 43 = .ok (.goto 4, 3) := by decide +kernel
theorem dX9_mostBy_46 : decode cX9_mostBy 46 = .ok (.iload_n 1, 1) := by decide +kernel
theorem dX9_mostBy_47 : decode cX9_mostBy 47 = .ok (.putfield 152, 3) := by decide +kernel
theorem dX9_mostBy_50 : decode cX9_mostBy 50 = .ok (.iload_n 1, 1) := by decide +kernel
theorem dX9_mostBy_51 : decode cX9_mostBy 51 = .ok (.aload_n 0, 1) := by decide +kernel
theorem dX9_mostBy_52 : decode cX9_mostBy 52 = .ok (.getfield 149, 3) := by decide +kernel
theorem dX9_mostBy_55 : decode cX9_mostBy 55 = .ok (.isub, 1) := by decide +kernel
theorem dX9_mostBy_56 : decode cX9_mostBy 56 = .ok (.aload_n 0, 1) := by decide +kernel
theorem dX9_mostBy_57 : decode cX9_mostBy 57 = .ok (.getfield 152, 3) := by decide +kernel
theorem dX9_mostBy_60 : decode cX9_mostBy 60 = .ok (.isub, 1) := by decide +kernel
theorem dX9_mostBy_61 : decode cX9_mostBy 61 = .ok (.istore 4, 2) := by decide +kernel
theorem dX9_mostBy_63 : decode cX9_mostBy 63 = .ok (.aload_n 0, 1) := by decide +kernel
theorem dX9_mostBy_64 : decode cX9_mostBy 64 = .ok (.getfield 149, 3) := by decide +kernel
theorem dX9_mostBy_67 : decode cX9_mostBy 67 = .ok (.aload_n 0, 1) := by decide +kernel
theorem dX9_mostBy_68 : decode cX9_mostBy 68 = .ok (.getfield 152, 3) := by decide +kernel
theorem dX9_mostBy_71 : decode cX9_mostBy 71 = .ok (.if_icmp .le 10, 3) := by decide +kernel
theorem dX9_mostBy_74 : decode cX9_mostBy 74 = .ok (.aload_n 0, 1) := by decide +kernel
theorem dX9_mostBy_75 : decode cX9_mostBy 75 = .ok (.getfield 149, 3) := by decide +kernel
theorem dX9_mostBy_78 : decode cX9_mostBy 78 = .ok (.goto 7, 3) := by decide +kernel
theorem dX9_mostBy_81 : decode cX9_mostBy 81 = .ok (.aload_n 0, 1) := by decide +kernel
theorem dX9_mostBy_82 : decode cX9_mostBy 82 = .ok (.getfield 152, 3) := by decide +kernel
theorem dX9_mostBy_85 : decode cX9_mostBy 85 = .ok (.istore 5, 2) := by decide +kernel
theorem dX9_mostBy_87 : decode cX9_mostBy 87 = .ok (.iload 4, 2) := by decide +kernel
theorem dX9_mostBy_89 : decode cX9_mostBy 89 = .ok (.iload 5, 2) := by decide +kernel
theorem dX9_mostBy_91 : decode cX9_mostBy 91 = .ok (.if_icmp .le 8, 3) := by decide +kernel
theorem dX9_mostBy_94 : decode cX9_mostBy 94 = .ok (.iload 4, 2) := by decide +kernel
theorem dX9_mostBy_96 : decode cX9_mostBy 96 = .ok (.goto 5, 3) := by decide +kernel
theorem dX9_mostBy_99 : decode cX9_mostBy 99 = .ok (.iload 5, 2) := by decide +kernel
theorem dX9_mostBy_101 : decode cX9_mostBy 101 = .ok (.ireturn, 1) := by decide +kernel
theorem dX9_shares_0 : decode cX9_shares 0 = .ok (.aload_n 0, 1) := by decide +kernel
theorem dX9_shares_1 : decode cX9_shares 1 = .ok (.iconst 0, 1) := by decide +kernel
theorem dX9_shares_2 : decode cX9_shares 2 = .ok (.putfield 39, 3) := by decide +kernel
theorem dX9_shares_5 : decode cX9_shares 5 = .ok (.aload_n 0, 1) := by decide +kernel
theorem dX9_shares_6 : decode cX9_shares 6 = .ok (.iload_n 1, 1) := by decide +kernel
theorem dX9_shares_7 : decode cX9_shares 7 = .ok (.invokevirtual 127, 3) := by decide +kernel
theorem dX9_shares_10 : decode cX9_shares 10 = .ok (.ifCond .eq 31, 3) := by decide +kernel
theorem dX9_shares_13 : decode cX9_shares 13 = .ok (.iload_n 2, 1) := by decide +kernel
theorem dX9_shares_14 : decode cX9_shares 14 = .ok (.iconst 2, 1) := by decide +kernel
theorem dX9_shares_15 : decode cX9_shares 15 = .ok (.iconst 3, 1) := by decide +kernel
theorem dX9_shares_16 : decode cX9_shares 16 = .ok (.invokestatic 43, 3) := by decide +kernel
theorem dX9_shares_19 : decode cX9_shares 19 = .ok (.ifCond .eq 22, 3) := by decide +kernel
theorem dX9_shares_22 : decode cX9_shares 22 = .ok (.iload_n 3, 1) := by decide +kernel
theorem dX9_shares_23 : decode cX9_shares 23 = .ok (.iconst (-1), 1) := by decide +kernel
theorem dX9_shares_24 : decode cX9_shares 24 = .ok (.iconst 3, 1) := by decide +kernel
theorem dX9_shares_25 : decode cX9_shares 25 = .ok (.invokestatic 43, 3) := by decide +kernel
theorem dX9_shares_28 : decode cX9_shares 28 = .ok (.ifCond .eq 13, 3) := by decide +kernel
theorem dX9_shares_31 : decode cX9_shares 31 = .ok (.iload_n 2, 1) := by decide +kernel
theorem dX9_shares_32 : decode cX9_shares 32 = .ok (.iconst 2, 1) := by decide +kernel
theorem dX9_shares_33 : decode cX9_shares 33 = .ok (.if_icmp .ne 10, 3) := by decide +kernel
theorem dX9_shares_36 : decode cX9_shares 36 = .ok (.iload_n 3, 1) := by decide +kernel
theorem dX9_shares_37 : decode cX9_shares 37 = .ok (.iconst 1, 1) := by decide +kernel
theorem dX9_shares_38 : decode cX9_shares 38 = .ok (.if_icmp .ne 5, 3) := by decide +kernel
theorem dX9_shares_41 : decode cX9_shares 41 = .ok (.iconst (-1), 1) := by decide +kernel
theorem dX9_shares_42 : decode cX9_shares 42 = .ok (.ireturn, 1) := by decide +kernel
theorem dX9_shares_43 : decode cX9_shares 43 = .ok (.aload_n 0, 1) := by decide +kernel
theorem dX9_shares_44 : decode cX9_shares 44 = .ok (.iload_n 1, 1) := by decide +kernel
theorem dX9_shares_45 : decode cX9_shares 45 = .ok (.iconst 4, 1) := by decide +kernel
theorem dX9_shares_46 : decode cX9_shares 46 = .ok (.invokevirtual 103, 3) := by decide +kernel
theorem dX9_shares_49 : decode cX9_shares 49 = .ok (.istore 4, 2) := by decide +kernel
theorem dX9_shares_51 : decode cX9_shares 51 = .ok (.iload 4, 2) := by decide +kernel
theorem dX9_shares_53 : decode cX9_shares 53 = .ok (.ifCond .ne 6, 3) := by decide +kernel
theorem dX9_shares_56 : decode cX9_shares 56 = .ok (.bipush (-2), 2) := by decide +kernel
theorem dX9_shares_58 : decode cX9_shares 58 = .ok (.ireturn, 1) := by decide +kernel
theorem dX9_shares_59 : decode cX9_shares 59 = .ok (.aload_n 0, 1) := by decide +kernel
theorem dX9_shares_60 : decode cX9_shares 60 = .ok (.iload_n 1, 1) := by decide +kernel
theorem dX9_shares_61 : decode cX9_shares 61 = .ok (.invokevirtual 120, 3) := by decide +kernel
theorem dX9_shares_64 : decode cX9_shares 64 = .ok (.iload 4, 2) := by decide +kernel
theorem dX9_shares_66 : decode cX9_shares 66 = .ok (.iconst 1, 1) := by decide +kernel
theorem dX9_shares_67 : decode cX9_shares 67 = .ok (.iadd, 1) := by decide +kernel
theorem dX9_shares_68 : decode cX9_shares 68 = .ok (.istore 5, 2) := by decide +kernel
theorem dX9_shares_70 : decode cX9_shares 70 = .ok (.iconst 0, 1) := by decide +kernel
theorem dX9_shares_71 : decode cX9_shares 71 = .ok (.istore 6, 2) := by decide +kernel
theorem dX9_shares_73 : decode cX9_shares 73 = .ok (.iconst 0, 1) := by decide +kernel
theorem dX9_shares_74 : decode cX9_shares 74 = .ok (.istore 7, 2) := by decide +kernel
theorem dX9_shares_76 : decode cX9_shares 76 = .ok (.iconst 0, 1) := by decide +kernel
theorem dX9_shares_77 : decode cX9_shares 77 = .ok (.istore 8, 2) := by decide +kernel
theorem dX9_shares_79 : decode cX9_shares 79 = .ok (.iload 8, 2) := by decide +kernel
theorem dX9_shares_81 : decode cX9_shares 81 = .ok (.aload_n 0, 1) := by decide +kernel
theorem dX9_shares_82 : decode cX9_shares 82 = .ok (.iload 4, 2) := by decide +kernel
theorem dX9_shares_84 : decode cX9_shares 84 = .ok (.invokevirtual 137, 3) := by decide +kernel
theorem dX9_shares_87 : decode cX9_shares 87 = .ok (.if_icmp .gt 66, 3) := by decide +kernel
theorem dX9_shares_90 : decode cX9_shares 90 = .ok (.iload_n 2, 1) := by decide +kernel
theorem dX9_shares_91 : decode cX9_shares 91 = .ok (.iconst 2, 1) := by decide +kernel
theorem dX9_shares_92 : decode cX9_shares 92 = .ok (.if_icmp .ne 8, 3) := by decide +kernel
theorem dX9_shares_95 : decode cX9_shares 95 = .ok (.iload 8, 2) := by decide +kernel
theorem dX9_shares_97 : decode cX9_shares 97 = .ok (.goto 4, 3) := by decide +kernel
theorem dX9_shares_100 : decode cX9_shares 100 = .ok (.iconst 0, 1) := by decide +kernel
theorem dX9_shares_101 : decode cX9_shares 101 = .ok (.istore 9, 2) := by decide +kernel
theorem dX9_shares_103 : decode cX9_shares 103 = .ok (.iload 9, 2) := by decide +kernel
theorem dX9_shares_105 : decode cX9_shares 105 = .ok (.iload 8, 2) := by decide +kernel
theorem dX9_shares_107 : decode cX9_shares 107 = .ok (.if_icmp .gt 40, 3) := by decide +kernel
theorem dX9_shares_110 : decode cX9_shares 110 = .ok (.aload_n 0, 1) := by decide +kernel
theorem dX9_shares_111 : decode cX9_shares 111 = .ok (.iload 4, 2) := by decide +kernel
theorem dX9_shares_113 : decode cX9_shares 113 = .ok (.iload 8, 2) := by decide +kernel
theorem dX9_shares_115 : decode cX9_shares 115 = .ok (.iload 9, 2) := by decide +kernel
theorem dX9_shares_117 : decode cX9_shares 117 = .ok (.invokevirtual 155, 3) := by decide +kernel
theorem dX9_shares_120 : decode cX9_shares 120 = .ok (.istore 10, 2) := by decide +kernel
theorem dX9_shares_122 : decode cX9_shares 122 = .ok (.iload 10, 2) := by decide +kernel
theorem dX9_shares_124 : decode cX9_shares 124 = .ok (.iload 5, 2) := by decide +kernel
theorem dX9_shares_126 : decode cX9_shares 126 = .ok (.if_icmp .ge 15, 3) := by decide +kernel
theorem dX9_shares_129 : decode cX9_shares 129 = .ok (.iload 10, 2) := by decide +kernel
theorem dX9_shares_131 : decode cX9_shares 131 = .ok (.istore 5, 2) := by decide +kernel
theorem dX9_shares_133 : decode cX9_shares 133 = .ok (.iload 8, 2) := by decide +kernel
theorem dX9_shares_135 : decode cX9_shares 135 = .ok (.istore 6, 2) := by decide +kernel
theorem dX9_shares_137 : decode cX9_shares 137 = .ok (.iload 9, 2) := by decide +kernel
theorem dX9_shares_139 : decode cX9_shares 139 = .ok (.istore 7, 2) := by decide +kernel
theorem dX9_shares_141 : decode cX9_shares 141 = .ok (.iinc 9 1, 3) := by decide +kernel
theorem dX9_shares_144 : decode cX9_shares 144 = .ok (.goto (-41), 3) := by decide +kernel
theorem dX9_shares_147 : decode cX9_shares 147 = .ok (.iinc 8 1, 3) := by decide +kernel
theorem dX9_shares_150 : decode cX9_shares 150 = .ok (.goto (-71), 3) := by decide +kernel
theorem dX9_shares_153 : decode cX9_shares 153 = .ok (.aload_n 0, 1) := by decide +kernel
theorem dX9_shares_154 : decode cX9_shares 154 = .ok (.iload 4, 2) := by decide +kernel
theorem dX9_shares_156 : decode cX9_shares 156 = .ok (.iload 6, 2) := by decide +kernel
theorem dX9_shares_158 : decode cX9_shares 158 = .ok (.iload 7, 2) := by decide +kernel
theorem dX9_shares_160 : decode cX9_shares 160 = .ok (.invokevirtual 155, 3) := by decide +kernel
theorem dX9_shares_163 : decode cX9_shares 163 = .ok (.pop, 1) := by decide +kernel
theorem dX9_shares_164 : decode cX9_shares 164 = .ok (.iload_n 3, 1) := by decide +kernel
theorem dX9_shares_165 : decode cX9_shares 165 = .ok (.iconst (-1), 1) := by decide +kernel
theorem dX9_shares_166 : decode cX9_shares 166 = .ok (.if_icmp .ne 8, 3) := by decide +kernel
theorem dX9_shares_169 : decode cX9_shares 169 = .ok (.iload 5, 2) := by decide +kernel
theorem dX9_shares_171 : decode cX9_shares 171 = .ok (.goto 38, 3) := by decide +kernel
theorem dX9_shares_174 : decode cX9_shares 174 = .ok (.iload_n 3, 1) := by decide +kernel
theorem dX9_shares_175 : decode cX9_shares 175 = .ok (.ifCond .ne 8, 3) := by decide +kernel
theorem dX9_shares_178 : decode cX9_shares 178 = .ok (.iload 6, 2) := by decide +kernel
theorem dX9_shares_180 : decode cX9_shares 180 = .ok (.goto 29, 3) := by decide +kernel
theorem dX9_shares_183 : decode cX9_shares 183 = .ok (.iload_n 3, 1) := by decide +kernel
theorem dX9_shares_184 : decode cX9_shares 184 = .ok (.iconst 1, 1) := by decide +kernel
theorem dX9_shares_185 : decode cX9_shares 185 = .ok (.if_icmp .ne 8, 3) := by decide +kernel
theorem dX9_shares_188 : decode cX9_shares 188 = .ok (.iload 7, 2) := by decide +kernel
theorem dX9_shares_190 : decode cX9_shares 190 = .ok (.goto 19, 3) := by decide +kernel
theorem dX9_shares_193 : decode cX9_shares 193 = .ok (.iload_n 3, 1) := by decide +kernel
theorem dX9_shares_194 : decode cX9_shares 194 = .ok (.iconst 2, 1) := by decide +kernel
theorem dX9_shares_195 : decode cX9_shares 195 = .ok (.if_icmp .ne 10, 3) := by decide +kernel
theorem dX9_shares_198 : decode cX9_shares 198 = .ok (.aload_n 0, 1) := by decide +kernel
theorem dX9_shares_199 : decode cX9_shares 199 = .ok (.getfield 149, 3) := by decide +kernel
theorem dX9_shares_202 : decode cX9_shares 202 = .ok (.goto 7, 3) := by decide +kernel
theorem dX9_shares_205 : decode cX9_shares 205 = .ok (.aload_n 0, 1) := by decide +kernel
theorem dX9_shares_206 : decode cX9_shares 206 = .ok (.getfield 152, 3) := by decide +kernel
theorem dX9_shares_209 : decode cX9_shares 209 = .ok (.ireturn, 1) := by decide +kernel
theorem dX9_strongest_0 : decode cX9_strongest 0 = .ok (.bipush (-9), 2) := by decide +kernel
theorem dX9_strongest_2 : decode cX9_strongest 2 = .ok (.istore_n 1, 1) := by decide +kernel
theorem dX9_strongest_3 : decode cX9_strongest 3 = .ok (.iconst 0, 1) := by decide +kernel
theorem dX9_strongest_4 : decode cX9_strongest 4 = .ok (.istore_n 2, 1) := by decide +kernel
theorem dX9_strongest_5 : decode cX9_strongest 5 = .ok (.iload_n 2, 1) := by decide +kernel
theorem dX9_strongest_6 : decode cX9_strongest 6 = .ok (.aload_n 0, 1) := by decide +kernel
theorem dX9_strongest_7 : decode cX9_strongest 7 = .ok (.getfield 7, 3) := by decide +kernel
theorem dX9_strongest_10 : decode cX9_strongest 10 = .ok (.bipush 24, 2) := by decide +kernel
theorem dX9_strongest_12 : decode cX9_strongest 12 = .ok (.iaload, 1) := by decide +kernel
theorem dX9_strongest_13 : decode cX9_strongest 13 = .ok (.if_icmp .ge 40, 3) := by decide +kernel
theorem dX9_strongest_16 : decode cX9_strongest 16 = .ok (.aload_n 0, 1) := by decide +kernel
theorem dX9_strongest_17 : decode cX9_strongest 17 = .ok (.iload_n 2, 1) := by decide +kernel
theorem dX9_strongest_18 : decode cX9_strongest 18 = .ok (.iconst 4, 1) := by decide +kernel
theorem dX9_strongest_19 : decode cX9_strongest 19 = .ok (.invokevirtual 103, 3) := by decide +kernel
theorem dX9_strongest_22 : decode cX9_strongest 22 = .ok (.ifCond .le 25, 3) := by decide +kernel
theorem dX9_strongest_25 : decode cX9_strongest 25 = .ok (.iload_n 1, 1) := by decide +kernel
theorem dX9_strongest_26 : decode cX9_strongest 26 = .ok (.bipush (-9), 2) := by decide +kernel
theorem dX9_strongest_28 : decode cX9_strongest 28 = .ok (.if_icmp .eq 17, 3) := by decide +kernel
theorem dX9_strongest_31 : decode cX9_strongest 31 = .ok (.aload_n 0, 1) := by decide +kernel
theorem dX9_strongest_32 : decode cX9_strongest 32 = .ok (.iload_n 2, 1) := by decide +kernel
theorem dX9_strongest_33 : decode cX9_strongest 33 = .ok (.invokevirtual 141, 3) := by decide +kernel
theorem dX9_strongest_36 : decode cX9_strongest 36 = .ok (.aload_n 0, 1) := by decide +kernel
theorem dX9_strongest_37 : decode cX9_strongest 37 = .ok (.iload_n 1, 1) := by decide +kernel
theorem dX9_strongest_38 : decode cX9_strongest 38 = .ok (.invokevirtual 141, 3) := by decide +kernel
theorem dX9_strongest_41 : decode cX9_strongest 41 = .ok (.fcmp .l, 1) := by decide +kernel
theorem dX9_strongest_42 : decode cX9_strongest 42 = .ok (.ifCond .le 5, 3) := by decide +kernel
theorem dX9_strongest_45 : decode cX9_strongest 45 = .ok (.iload_n 2, 1) := by decide +kernel
theorem dX9_strongest_46 : decode cX9_strongest 46 = .ok (.istore_n 1, 1) := by decide +kernel
theorem dX9_strongest_47 : decode cX9_strongest 47 = .ok (.iinc 2 1, 3) := by decide +kernel
theorem dX9_strongest_50 : decode cX9_strongest 50 = .ok (.goto (-45), 3) := by decide +kernel
theorem dX9_strongest_53 : decode cX9_strongest 53 = .ok (.iload_n 1, 1) := by decide +kernel
theorem dX9_strongest_54 : decode cX9_strongest 54 = .ok (.ireturn, 1) := by decide +kernel
end
section
theorem dX9_mean_0 : decode cX9_mean 0 = .ok (.fconst 0, 1) := by decide +kernel
theorem dX9_mean_1 : decode cX9_mean 1 = .ok (.fstore_n 1, 1) := by decide +kernel
theorem dX9_mean_2 : decode cX9_mean 2 = .ok (.iconst 0, 1) := by decide +kernel
theorem dX9_mean_3 : decode cX9_mean 3 = .ok (.istore_n 2, 1) := by decide +kernel
theorem dX9_mean_4 : decode cX9_mean 4 = .ok (.iconst 0, 1) := by decide +kernel
theorem dX9_mean_5 : decode cX9_mean 5 = .ok (.istore_n 3, 1) := by decide +kernel
theorem dX9_mean_6 : decode cX9_mean 6 = .ok (.iload_n 3, 1) := by decide +kernel
theorem dX9_mean_7 : decode cX9_mean 7 = .ok (.aload_n 0, 1) := by decide +kernel
theorem dX9_mean_8 : decode cX9_mean 8 = .ok (.getfield 7, 3) := by decide +kernel
theorem dX9_mean_11 : decode cX9_mean 11 = .ok (.bipush 24, 2) := by decide +kernel
theorem dX9_mean_13 : decode cX9_mean 13 = .ok (.iaload, 1) := by decide +kernel
theorem dX9_mean_14 : decode cX9_mean 14 = .ok (.if_icmp .ge 29, 3) := by decide +kernel
theorem dX9_mean_17 : decode cX9_mean 17 = .ok (.aload_n 0, 1) := by decide +kernel
theorem dX9_mean_18 : decode cX9_mean 18 = .ok (.iload_n 3, 1) := by decide +kernel
theorem dX9_mean_19 : decode cX9_mean 19 = .ok (.iconst 4, 1) := by decide +kernel
theorem dX9_mean_20 : decode cX9_mean 20 = .ok (.invokevirtual 103, 3) := by decide +kernel
theorem dX9_mean_23 : decode cX9_mean 23 = .ok (.ifCond .le 14, 3) := by decide +kernel
theorem dX9_mean_26 : decode cX9_mean 26 = .ok (.fload_n 1, 1) := by decide +kernel
theorem dX9_mean_27 : decode cX9_mean 27 = .ok (.aload_n 0, 1) := by decide +kernel
theorem dX9_mean_28 : decode cX9_mean 28 = .ok (.iload_n 3, 1) := by decide +kernel
theorem dX9_mean_29 : decode cX9_mean 29 = .ok (.invokevirtual 141, 3) := by decide +kernel
theorem dX9_mean_32 : decode cX9_mean 32 = .ok (.fadd, 1) := by decide +kernel
theorem dX9_mean_33 : decode cX9_mean 33 = .ok (.fstore_n 1, 1) := by decide +kernel
theorem dX9_mean_34 : decode cX9_mean 34 = .ok (.iinc 2 1, 3) := by decide +kernel
theorem dX9_mean_37 : decode cX9_mean 37 = .ok (.iinc 3 1, 3) := by decide +kernel
theorem dX9_mean_40 : decode cX9_mean 40 = .ok (.goto (-34), 3) := by decide +kernel
theorem dX9_mean_43 : decode cX9_mean 43 = .ok (.iload_n 2, 1) := by decide +kernel
theorem dX9_mean_44 : decode cX9_mean 44 = .ok (.ifCond .ne 8, 3) := by decide +kernel
theorem dX9_mean_47 : decode cX9_mean 47 = .ok (.bipush (-9), 2) := by decide +kernel
theorem dX9_mean_49 : decode cX9_mean 49 = .ok (.goto 11, 3) := by decide +kernel
theorem dX9_mean_52 : decode cX9_mean 52 = .ok (.ldc 140, 2) := by decide +kernel
theorem dX9_mean_54 : decode cX9_mean 54 = .ok (.fload_n 1, 1) := by decide +kernel
theorem dX9_mean_55 : decode cX9_mean 55 = .ok (.iload_n 2, 1) := by decide +kernel
theorem dX9_mean_56 : decode cX9_mean 56 = .ok (.i2f, 1) := by decide +kernel
theorem dX9_mean_57 : decode cX9_mean 57 = .ok (.fdiv, 1) := by decide +kernel
theorem dX9_mean_58 : decode cX9_mean 58 = .ok (.fmul, 1) := by decide +kernel
theorem dX9_mean_59 : decode cX9_mean 59 = .ok (.f2i, 1) := by decide +kernel
theorem dX9_mean_60 : decode cX9_mean 60 = .ok (.ireturn, 1) := by decide +kernel
theorem dX9_all_0 : decode cX9_all 0 = .ok (.aload_n 0, 1) := by decide +kernel
theorem dX9_all_1 : decode cX9_all 1 = .ok (.iconst 0, 1) := by decide +kernel
theorem dX9_all_2 : decode cX9_all 2 = .ok (.putfield 39, 3) := by decide +kernel
theorem dX9_all_5 : decode cX9_all 5 = .ok (.iload_n 1, 1) := by decide +kernel
theorem dX9_all_6 : decode cX9_all 6 = .ok (.ifCond .ne 10, 3) := by decide +kernel
theorem dX9_all_9 : decode cX9_all 9 = .ok (.aload_n 0, 1) := by decide +kernel
theorem dX9_all_10 : decode cX9_all 10 = .ok (.invokevirtual 158, 3) := by decide +kernel
theorem dX9_all_13 : decode cX9_all 13 = .ok (.goto 16, 3) := by decide +kernel
theorem dX9_all_16 : decode cX9_all 16 = .ok (.iload_n 1, 1) := by decide +kernel
theorem dX9_all_17 : decode cX9_all 17 = .ok (.iconst 1, 1) := by decide +kernel
theorem dX9_all_18 : decode cX9_all 18 = .ok (.if_icmp .ne 10, 3) := by decide +kernel
theorem dX9_all_21 : decode cX9_all 21 = .ok (.aload_n 0, 1) := by decide +kernel
theorem dX9_all_22 : decode cX9_all 22 = .ok (.invokevirtual 161, 3) := by decide +kernel
theorem dX9_all_25 : decode cX9_all 25 = .ok (.goto 4, 3) := by decide +kernel
theorem dX9_all_28 : decode cX9_all 28 = .ok (.iconst (-1), 1) := by decide +kernel
theorem dX9_all_29 : decode cX9_all 29 = .ok (.ireturn, 1) := by decide +kernel
theorem dX9_sees_0 : decode cX9_sees 0 = .ok (.aload_n 0, 1) := by decide +kernel
theorem dX9_sees_1 : decode cX9_sees 1 = .ok (.iconst 0, 1) := by decide +kernel
theorem dX9_sees_2 : decode cX9_sees 2 = .ok (.putfield 39, 3) := by decide +kernel
theorem dX9_sees_5 : decode cX9_sees 5 = .ok (.iload_n 1, 1) := by decide +kernel
theorem dX9_sees_6 : decode cX9_sees 6 = .ok (.iconst 0, 1) := by decide +kernel
theorem dX9_sees_7 : decode cX9_sees 7 = .ok (.ldc 164, 2) := by decide +kernel
theorem dX9_sees_9 : decode cX9_sees 9 = .ok (.invokestatic 43, 3) := by decide +kernel
theorem dX9_sees_12 : decode cX9_sees 12 = .ok (.ifCond .eq 13, 3) := by decide +kernel
theorem dX9_sees_15 : decode cX9_sees 15 = .ok (.iload_n 2, 1) := by decide +kernel
theorem dX9_sees_16 : decode cX9_sees 16 = .ok (.iconst 0, 1) := by decide +kernel
theorem dX9_sees_17 : decode cX9_sees 17 = .ok (.bipush 40, 2) := by decide +kernel
theorem dX9_sees_19 : decode cX9_sees 19 = .ok (.invokestatic 43, 3) := by decide +kernel
theorem dX9_sees_22 : decode cX9_sees 22 = .ok (.ifCond .ne 5, 3) := by decide +kernel
theorem dX9_sees_25 : decode cX9_sees 25 = .ok (.iconst (-1), 1) := by decide +kernel
theorem dX9_sees_26 : decode cX9_sees 26 = .ok (.ireturn, 1) := by decide +kernel
theorem dX9_sees_27 : decode cX9_sees 27 = .ok (.aload_n 0, 1) := by decide +kernel
theorem dX9_sees_28 : decode cX9_sees 28 = .ok (.getfield 165, 3) := by decide +kernel
theorem dX9_sees_31 : decode cX9_sees 31 = .ok (.bipush 6, 2) := by decide +kernel
theorem dX9_sees_33 : decode cX9_sees 33 = .ok (.if_icmp .ne 6, 3) := by decide +kernel
theorem dX9_sees_36 : decode cX9_sees 36 = .ok (.bipush (-3), 2) := by decide +kernel
theorem dX9_sees_38 : decode cX9_sees 38 = .ok (.ireturn, 1) := by decide +kernel
theorem dX9_sees_39 : decode cX9_sees 39 = .ok (.aload_n 0, 1) := by decide +kernel
theorem dX9_sees_40 : decode cX9_sees 40 = .ok (.getfield 26, 3) := by decide +kernel
theorem dX9_sees_43 : decode cX9_sees 43 = .ok (.iconst 2, 1) := by decide +kernel
theorem dX9_sees_44 : decode cX9_sees 44 = .ok (.aload_n 0, 1) := by decide +kernel
theorem dX9_sees_45 : decode cX9_sees 45 = .ok (.getfield 165, 3) := by decide +kernel
theorem dX9_sees_48 : decode cX9_sees 48 = .ok (.imul, 1) := by decide +kernel
theorem dX9_sees_49 : decode cX9_sees 49 = .ok (.iload_n 1, 1) := by decide +kernel
theorem dX9_sees_50 : decode cX9_sees 50 = .ok (.iastore, 1) := by decide +kernel
theorem dX9_sees_51 : decode cX9_sees 51 = .ok (.aload_n 0, 1) := by decide +kernel
theorem dX9_sees_52 : decode cX9_sees 52 = .ok (.getfield 26, 3) := by decide +kernel
theorem dX9_sees_55 : decode cX9_sees 55 = .ok (.iconst 2, 1) := by decide +kernel
theorem dX9_sees_56 : decode cX9_sees 56 = .ok (.aload_n 0, 1) := by decide +kernel
theorem dX9_sees_57 : decode cX9_sees 57 = .ok (.getfield 165, 3) := by decide +kernel
theorem dX9_sees_60 : decode cX9_sees 60 = .ok (.imul, 1) := by decide +kernel
theorem dX9_sees_61 : decode cX9_sees 61 = .ok (.iconst 1, 1) := by decide +kernel
theorem dX9_sees_62 : decode cX9_sees 62 = .ok (.iadd, 1) := by decide +kernel
theorem dX9_sees_63 : decode cX9_sees 63 = .ok (.iload_n 2, 1) := by decide +kernel
theorem dX9_sees_64 : decode cX9_sees 64 = .ok (.iastore, 1) := by decide +kernel
theorem dX9_sees_65 : decode cX9_sees 65 = .ok (.aload_n 0, 1) := by decide +kernel
theorem dX9_sees_66 : decode cX9_sees 66 = .ok (.dup, 1) := by decide +kernel
theorem dX9_sees_67 : decode cX9_sees 67 = .ok (.getfield 165, 3) := by decide +kernel
theorem dX9_sees_70 : decode cX9_sees 70 = .ok (.iconst 1, 1) := by decide +kernel
theorem dX9_sees_71 : decode cX9_sees 71 = .ok (.iadd, 1) := by decide +kernel
theorem dX9_sees_72 : decode cX9_sees 72 = .ok (.putfield 165, 3) := by decide +kernel
theorem dX9_sees_75 : decode cX9_sees 75 = .ok (.aload_n 0, 1) := by decide +kernel
theorem dX9_sees_76 : decode cX9_sees 76 = .ok (.getfield 165, 3) := by decide +kernel
theorem dX9_sees_79 : decode cX9_sees 79 = .ok (.ireturn, 1) := by decide +kernel
theorem dX9_forget_0 : decode cX9_forget 0 = .ok (.aload_n 0, 1) := by decide +kernel
theorem dX9_forget_1 : decode cX9_forget 1 = .ok (.iconst 0, 1) := by decide +kernel
theorem dX9_forget_2 : decode cX9_forget 2 = .ok (.putfield 39, 3) := by decide +kernel
theorem dX9_forget_5 : decode cX9_forget 5 = .ok (.aload_n 0, 1) := by decide +kernel
theorem dX9_forget_6 : decode cX9_forget 6 = .ok (.getfield 165, 3) := by decide +kernel
theorem dX9_forget_9 : decode cX9_forget 9 = .ok (.istore_n 1, 1) := by decide +kernel
theorem dX9_forget_10 : decode cX9_forget 10 = .ok (.aload_n 0, 1) := by decide +kernel
theorem dX9_forget_11 : decode cX9_forget 11 = .ok (.iconst 0, 1) := by decide +kernel
theorem dX9_forget_12 : decode cX9_forget 12 = .ok (.putfield 165, 3) := by decide +kernel
theorem dX9_forget_15 : decode cX9_forget 15 = .ok (.iload_n 1, 1) := by decide +kernel
theorem dX9_forget_16 : decode cX9_forget 16 = .ok (.ireturn, 1) := by decide +kernel
theorem dX9_suspects_0 : decode cX9_suspects 0 = .ok (.iconst 0, 1) := by decide +kernel
theorem dX9_suspects_1 : decode cX9_suspects 1 = .ok (.istore_n 1, 1) := by decide +kernel
theorem dX9_suspects_2 : decode cX9_suspects 2 = .ok (.iconst 0, 1) := by decide +kernel
theorem dX9_suspects_3 : decode cX9_suspects 3 = .ok (.istore_n 2, 1) := by decide +kernel
theorem dX9_suspects_4 : decode cX9_suspects 4 = .ok (.iload_n 2, 1) := by decide +kernel
theorem dX9_suspects_5 : decode cX9_suspects 5 = .ok (.aload_n 0, 1) := by decide +kernel
theorem dX9_suspects_6 : decode cX9_suspects 6 = .ok (.getfield 7, 3) := by decide +kernel
theorem dX9_suspects_9 : decode cX9_suspects 9 = .ok (.bipush 24, 2) := by decide +kernel
theorem dX9_suspects_11 : decode cX9_suspects 11 = .ok (.iaload, 1) := by decide +kernel
theorem dX9_suspects_12 : decode cX9_suspects 12 = .ok (.if_icmp .ge 107, 3) := by decide +kernel
theorem dX9_suspects_15 : decode cX9_suspects 15 = .ok (.aload_n 0, 1) := by decide +kernel
theorem dX9_suspects_16 : decode cX9_suspects 16 = .ok (.iload_n 2, 1) := by decide +kernel
theorem dX9_suspects_17 : decode cX9_suspects 17 = .ok (.iconst 1, 1) := by decide +kernel
theorem dX9_suspects_18 : decode cX9_suspects 18 = .ok (.invokevirtual 116, 3) := by decide +kernel
theorem dX9_suspects_21 : decode cX9_suspects 21 = .ok (.iconst 1, 1) := by decide +kernel
theorem dX9_suspects_22 : decode cX9_suspects 22 = .ok (.istore_n 3, 1) := by decide +kernel
theorem dX9_suspects_23 : decode cX9_suspects 23 = .ok (.iconst 0, 1) := by decide +kernel
theorem dX9_suspects_24 : decode cX9_suspects 24 = .ok (.istore 4, 2) := by decide +kernel
theorem dX9_suspects_26 : decode cX9_suspects 26 = .ok (.iload 4, 2) := by decide +kernel
theorem dX9_suspects_28 : decode cX9_suspects 28 = .ok (.aload_n 0, 1) := by decide +kernel
theorem dX9_suspects_29 : decode cX9_suspects 29 = .ok (.getfield 165, 3) := by decide +kernel
theorem dX9_suspects_32 : decode cX9_suspects 32 = .ok (.if_icmp .ge 67, 3) := by decide +kernel
theorem dX9_suspects_35 : decode cX9_suspects 35 = .ok (.iload_n 3, 1) := by decide +kernel
theorem dX9_suspects_36 : decode cX9_suspects 36 = .ok (.ifCond .eq 63, 3) := by decide +kernel
theorem dX9_suspects_39 : decode cX9_suspects 39 = .ok (.aload_n 0, 1) := by decide +kernel
theorem dX9_suspects_40 : decode cX9_suspects 40 = .ok (.getfield 26, 3) := by decide +kernel
theorem dX9_suspects_43 : decode cX9_suspects 43 = .ok (.iconst 2, 1) := by decide +kernel
theorem dX9_suspects_44 : decode cX9_suspects 44 = .ok (.iload 4, 2) := by decide +kernel
theorem dX9_suspects_46 : decode cX9_suspects 46 = .ok (.imul, 1) := by decide +kernel
theorem dX9_suspects_47 : decode cX9_suspects 47 = .ok (.iaload, 1) := by decide +kernel
theorem dX9_suspects_48 : decode cX9_suspects 48 = .ok (.aload_n 0, 1) := by decide +kernel
theorem dX9_suspects_49 : decode cX9_suspects 49 = .ok (.getfield 33, 3) := by decide +kernel
theorem dX9_suspects_52 : decode cX9_suspects 52 = .ok (.aload_n 0, 1) := by decide +kernel
theorem dX9_suspects_53 : decode cX9_suspects 53 = .ok (.getfield 109, 3) := by decide +kernel
theorem dX9_suspects_56 : decode cX9_suspects 56 = .ok (.iaload, 1) := by decide +kernel
theorem dX9_suspects_57 : decode cX9_suspects 57 = .ok (.if_icmp .gt 34, 3) := by decide +kernel
theorem dX9_suspects_60 : decode cX9_suspects 60 = .ok (.aload_n 0, 1) := by decide +kernel
theorem dX9_suspects_61 : decode cX9_suspects 61 = .ok (.aload_n 0, 1) := by decide +kernel
theorem dX9_suspects_62 : decode cX9_suspects 62 = .ok (.getfield 26, 3) := by decide +kernel
theorem dX9_suspects_65 : decode cX9_suspects 65 = .ok (.iconst 2, 1) := by decide +kernel
theorem dX9_suspects_66 : decode cX9_suspects 66 = .ok (.iload 4, 2) := by decide +kernel
theorem dX9_suspects_68 : decode cX9_suspects 68 = .ok (.imul, 1) := by decide +kernel
theorem dX9_suspects_69 : decode cX9_suspects 69 = .ok (.iaload, 1) := by decide +kernel
theorem dX9_suspects_70 : decode cX9_suspects 70 = .ok (.invokevirtual 137, 3) := by decide +kernel
theorem dX9_suspects_73 : decode cX9_suspects 73 = .ok (.aload_n 0, 1) := by decide +kernel
theorem dX9_suspects_74 : decode cX9_suspects 74 = .ok (.getfield 26, 3) := by decide +kernel
theorem dX9_suspects_77 : decode cX9_suspects 77 = .ok (.iconst 2, 1) := by decide +kernel
theorem dX9_suspects_78 : decode cX9_suspects 78 = .ok (.iload 4, 2) := by decide +kernel
theorem dX9_suspects_80 : decode cX9_suspects 80 = .ok (.imul, 1) := by decide +kernel
theorem dX9_suspects_81 : decode cX9_suspects 81 = .ok (.iconst 1, 1) := by decide +kernel
theorem dX9_suspects_82 : decode cX9_suspects 82 = .ok (.iadd, 1) := by decide +kernel
theorem dX9_suspects_83 : decode cX9_suspects 83 = .ok (.iaload, 1) := by decide +kernel
theorem dX9_suspects_84 : decode cX9_suspects 84 = .ok (.if_icmp .ne 7, 3) := by decide +kernel
theorem dX9_suspects_87 : decode cX9_suspects 87 = .ok (.iconst 1, 1) := by decide +kernel
theorem dX9_suspects_88 : decode cX9_suspects 88 = .ok (.goto 4, 3) := by decide +kernel
theorem dX9_suspects_91 : decode cX9_suspects 91 = .ok (.iconst 0, 1) := by decide +kernel
theorem dX9_suspects_92 : decode cX9_suspects 92 = .ok (.istore_n 3, 1) := by decide +kernel
theorem dX9_suspects_93 : decode cX9_suspects 93 = .ok (.iinc 4 1, 3) := by decide +kernel
theorem dX9_suspects_96 : decode cX9_suspects 96 = .ok (.goto (-70), 3) := by decide +kernel
theorem dX9_suspects_99 : decode cX9_suspects 99 = .ok (.iload_n 1, 1) := by decide +kernel
theorem dX9_suspects_100 : decode cX9_suspects 100 = .ok (.iload_n 3, 1) := by decide +kernel
theorem dX9_suspects_101 : decode cX9_suspects 101 = .ok (.ifCond .eq 9, 3) := by decide +kernel
theorem dX9_suspects_104 : decode cX9_suspects 104 = .ok (.iconst 1, 1) := by decide +kernel
theorem dX9_suspects_105 : decode cX9_suspects 105 = .ok (.iload_n 2, 1) := by decide +kernel
theorem dX9_suspects_106 : decode cX9_suspects 106 = .ok (.ishl, 1) := by decide +kernel
theorem dX9_suspects_107 : decode cX9_suspects 107 = .ok (.goto 4, 3) := by decide +kernel
theorem dX9_suspects_110 : decode cX9_suspects 110 = .ok (.iconst 0, 1) := by decide +kernel
theorem dX9_suspects_111 : decode cX9_suspects 111 = .ok (.ior, 1) := by decide +kernel
theorem dX9_suspects_112 : decode cX9_suspects 112 = .ok (.istore_n 1, 1) := by decide +kernel
theorem dX9_suspects_113 : decode cX9_suspects 113 = .ok (.iinc 2 1, 3) := by decide +kernel
theorem dX9_suspects_116 : decode cX9_suspects 116 = .ok (.goto (-112), 3) := by decide +kernel
theorem dX9_suspects_119 : decode cX9_suspects 119 = .ok (.iload_n 1, 1) := by decide +kernel
theorem dX9_suspects_120 : decode cX9_suspects 120 = .ok (.ireturn, 1) := by decide +kernel
theorem dX9_which_0 : decode cX9_which 0 = .ok (.aload_n 0, 1) := by decide +kernel
theorem dX9_which_1 : decode cX9_which 1 = .ok (.iconst 0, 1) := by decide +kernel
theorem dX9_which_2 : decode cX9_which 2 = .ok (.putfield 39, 3) := by decide +kernel
theorem dX9_which_5 : decode cX9_which 5 = .ok (.aload_n 0, 1) := by decide +kernel
theorem dX9_which_6 : decode cX9_which 6 = .ok (.invokevirtual 168, 3) := by decide +kernel
theorem dX9_which_9 : decode cX9_which 9 = .ok (.ireturn, 1) := by decide +kernel
theorem dX9_laysDips_0 : decode cX9_laysDips 0 = .ok (.iconst 0, 1) := by decide +kernel
theorem dX9_laysDips_1 : decode cX9_laysDips 1 = .ok (.istore_n 1, 1) := by decide +kernel
theorem dX9_laysDips_2 : decode cX9_laysDips 2 = .ok (.iload_n 1, 1) := by decide +kernel
theorem dX9_laysDips_3 : decode cX9_laysDips 3 = .ok (.aload_n 0, 1) := by decide +kernel
theorem dX9_laysDips_4 : decode cX9_laysDips 4 = .ok (.getfield 7, 3) := by decide +kernel
theorem dX9_laysDips_7 : decode cX9_laysDips 7 = .ok (.bipush 24, 2) := by decide +kernel
theorem dX9_laysDips_9 : decode cX9_laysDips 9 = .ok (.iaload, 1) := by decide +kernel
theorem dX9_laysDips_10 : decode cX9_laysDips 10 = .ok (.if_icmp .ge 63, 3) := by decide +kernel
theorem dX9_laysDips_13 : decode cX9_laysDips 13 = .ok (.aload_n 0, 1) := by decide +kernel
theorem dX9_laysDips_14 : decode cX9_laysDips 14 = .ok (.iload_n 1, 1) := by decide +kernel
theorem dX9_laysDips_15 : decode cX9_laysDips 15 = .ok (.iconst 1, 1) := by decide +kernel
theorem dX9_laysDips_16 : decode cX9_laysDips 16 = .ok (.invokevirtual 116, 3) := by decide +kernel
theorem dX9_laysDips_19 : decode cX9_laysDips 19 = .ok (.iconst 0, 1) := by decide +kernel
theorem dX9_laysDips_20 : decode cX9_laysDips 20 = .ok (.istore_n 2, 1) := by decide +kernel
theorem dX9_laysDips_21 : decode cX9_laysDips 21 = .ok (.iload_n 2, 1) := by decide +kernel
theorem dX9_laysDips_22 : decode cX9_laysDips 22 = .ok (.sipush 1000, 3) := by decide +kernel
theorem dX9_laysDips_25 : decode cX9_laysDips 25 = .ok (.if_icmp .ge 42, 3) := by decide +kernel
theorem dX9_laysDips_28 : decode cX9_laysDips 28 = .ok (.aload_n 0, 1) := by decide +kernel
theorem dX9_laysDips_29 : decode cX9_laysDips 29 = .ok (.getfield 36, 3) := by decide +kernel
theorem dX9_laysDips_32 : decode cX9_laysDips 32 = .ok (.iconst 4, 1) := by decide +kernel
theorem dX9_laysDips_33 : decode cX9_laysDips 33 = .ok (.iload_n 2, 1) := by decide +kernel
theorem dX9_laysDips_34 : decode cX9_laysDips 34 = .ok (.imul, 1) := by decide +kernel
theorem dX9_laysDips_35 : decode cX9_laysDips 35 = .ok (.iload_n 1, 1) := by decide +kernel
theorem dX9_laysDips_36 : decode cX9_laysDips 36 = .ok (.iadd, 1) := by decide +kernel
theorem dX9_laysDips_37 : decode cX9_laysDips 37 = .ok (.iload_n 2, 1) := by decide +kernel
theorem dX9_laysDips_38 : decode cX9_laysDips 38 = .ok (.aload_n 0, 1) := by decide +kernel
theorem dX9_laysDips_39 : decode cX9_laysDips 39 = .ok (.getfield 33, 3) := by decide +kernel
theorem dX9_laysDips_42 : decode cX9_laysDips 42 = .ok (.aload_n 0, 1) := by decide +kernel
theorem dX9_laysDips_43 : decode cX9_laysDips 43 = .ok (.getfield 109, 3) := by decide +kernel
theorem dX9_laysDips_46 : decode cX9_laysDips 46 = .ok (.iaload, 1) := by decide +kernel
theorem dX9_laysDips_47 : decode cX9_laysDips 47 = .ok (.if_icmp .le 8, 3) := by decide +kernel
theorem dX9_laysDips_50 : decode cX9_laysDips 50 = .ok (.bipush (-9), 2) := by decide +kernel
theorem dX9_laysDips_52 : decode cX9_laysDips 52 = .ok (.goto 8, 3) := by decide +kernel
theorem dX9_laysDips_55 : decode cX9_laysDips 55 = .ok (.aload_n 0, 1) := by decide +kernel
theorem dX9_laysDips_56 : decode cX9_laysDips 56 = .ok (.iload_n 2, 1) := by decide +kernel
theorem dX9_laysDips_57 : decode cX9_laysDips 57 = .ok (.invokevirtual 137, 3) := by decide +kernel
theorem dX9_laysDips_60 : decode cX9_laysDips 60 = .ok (.iastore, 1) := by decide +kernel
theorem dX9_laysDips_61 : decode cX9_laysDips 61 = .ok (.iinc 2 1, 3) := by decide +kernel
theorem dX9_laysDips_64 : decode cX9_laysDips 64 = .ok (.goto (-43), 3) := by decide +kernel
theorem dX9_laysDips_67 : decode cX9_laysDips 67 = .ok (.iinc 1 1, 3) := by decide +kernel
theorem dX9_laysDips_70 : decode cX9_laysDips 70 = .ok (.goto (-68), 3) := by decide +kernel
theorem dX9_laysDips_73 : decode cX9_laysDips 73 = .ok (.return_, 1) := by decide +kernel
theorem dX9_alike_0 : decode cX9_alike 0 = .ok (.iconst 0, 1) := by decide +kernel
theorem dX9_alike_1 : decode cX9_alike 1 = .ok (.istore_n 3, 1) := by decide +kernel
theorem dX9_alike_2 : decode cX9_alike 2 = .ok (.iconst 0, 1) := by decide +kernel
theorem dX9_alike_3 : decode cX9_alike 3 = .ok (.istore 4, 2) := by decide +kernel
theorem dX9_alike_5 : decode cX9_alike 5 = .ok (.iload 4, 2) := by decide +kernel
theorem dX9_alike_7 : decode cX9_alike 7 = .ok (.aload_n 0, 1) := by decide +kernel
theorem dX9_alike_8 : decode cX9_alike 8 = .ok (.getfield 7, 3) := by decide +kernel
theorem dX9_alike_11 : decode cX9_alike 11 = .ok (.bipush 24, 2) := by decide +kernel
theorem dX9_alike_13 : decode cX9_alike 13 = .ok (.iaload, 1) := by decide +kernel
theorem dX9_alike_14 : decode cX9_alike 14 = .ok (.if_icmp .ge 101, 3) := by decide +kernel
theorem dX9_alike_17 : decode cX9_alike 17 = .ok (.iconst 0, 1) := by decide +kernel
theorem dX9_alike_18 : decode cX9_alike 18 = .ok (.istore 5, 2) := by decide +kernel
theorem dX9_alike_20 : decode cX9_alike 20 = .ok (.iconst 0, 1) := by decide +kernel
theorem dX9_alike_21 : decode cX9_alike 21 = .ok (.istore 6, 2) := by decide +kernel
theorem dX9_alike_23 : decode cX9_alike 23 = .ok (.iload 6, 2) := by decide +kernel
theorem dX9_alike_25 : decode cX9_alike 25 = .ok (.aload_n 0, 1) := by decide +kernel
theorem dX9_alike_26 : decode cX9_alike 26 = .ok (.getfield 7, 3) := by decide +kernel
theorem dX9_alike_29 : decode cX9_alike 29 = .ok (.bipush 24, 2) := by decide +kernel
theorem dX9_alike_31 : decode cX9_alike 31 = .ok (.iaload, 1) := by decide +kernel
theorem dX9_alike_32 : decode cX9_alike 32 = .ok (.if_icmp .ge 64, 3) := by decide +kernel
theorem dX9_alike_35 : decode cX9_alike 35 = .ok (.iload 5, 2) := by decide +kernel
theorem dX9_alike_37 : decode cX9_alike 37 = .ok (.iload_n 1, 1) := by decide +kernel
theorem dX9_alike_38 : decode cX9_alike 38 = .ok (.iload 4, 2) := by decide +kernel
theorem dX9_alike_40 : decode cX9_alike 40 = .ok (.ishr, 1) := by decide +kernel
theorem dX9_alike_41 : decode cX9_alike 41 = .ok (.iconst 1, 1) := by decide +kernel
theorem dX9_alike_42 : decode cX9_alike 42 = .ok (.iand, 1) := by decide +kernel
theorem dX9_alike_43 : decode cX9_alike 43 = .ok (.iconst 1, 1) := by decide +kernel
theorem dX9_alike_44 : decode cX9_alike 44 = .ok (.if_icmp .ne 42, 3) := by decide +kernel
theorem dX9_alike_47 : decode cX9_alike 47 = .ok (.iload_n 1, 1) := by decide +kernel
theorem dX9_alike_48 : decode cX9_alike 48 = .ok (.iload 6, 2) := by decide +kernel
theorem dX9_alike_50 : decode cX9_alike 50 = .ok (.ishr, 1) := by decide +kernel
theorem dX9_alike_51 : decode cX9_alike 51 = .ok (.iconst 1, 1) := by decide +kernel
theorem dX9_alike_52 : decode cX9_alike 52 = .ok (.iand, 1) := by decide +kernel
theorem dX9_alike_53 : decode cX9_alike 53 = .ok (.iconst 1, 1) := by decide +kernel
theorem dX9_alike_54 : decode cX9_alike 54 = .ok (.if_icmp .ne 32, 3) := by decide +kernel
theorem dX9_alike_57 : decode cX9_alike 57 = .ok (.aload_n 0, 1) := by decide +kernel
theorem dX9_alike_58 : decode cX9_alike 58 = .ok (.getfield 36, 3) := by decide +kernel
theorem dX9_alike_61 : decode cX9_alike 61 = .ok (.iconst 4, 1) := by decide +kernel
theorem dX9_alike_62 : decode cX9_alike 62 = .ok (.iload_n 2, 1) := by decide +kernel
theorem dX9_alike_63 : decode cX9_alike 63 = .ok (.imul, 1) := by decide +kernel
theorem dX9_alike_64 : decode cX9_alike 64 = .ok (.iload 4, 2) := by decide +kernel
theorem dX9_alike_66 : decode cX9_alike 66 = .ok (.iadd, 1) := by decide +kernel
theorem dX9_alike_67 : decode cX9_alike 67 = .ok (.iaload, 1) := by decide +kernel
theorem dX9_alike_68 : decode cX9_alike 68 = .ok (.aload_n 0, 1) := by decide +kernel
theorem dX9_alike_69 : decode cX9_alike 69 = .ok (.getfield 36, 3) := by decide +kernel
theorem dX9_alike_72 : decode cX9_alike 72 = .ok (.iconst 4, 1) := by decide +kernel
theorem dX9_alike_73 : decode cX9_alike 73 = .ok (.iload_n 2, 1) := by decide +kernel
theorem dX9_alike_74 : decode cX9_alike 74 = .ok (.imul, 1) := by decide +kernel
theorem dX9_alike_75 : decode cX9_alike 75 = .ok (.iload 6, 2) := by decide +kernel
theorem dX9_alike_77 : decode cX9_alike 77 = .ok (.iadd, 1) := by decide +kernel
theorem dX9_alike_78 : decode cX9_alike 78 = .ok (.iaload, 1) := by decide +kernel
theorem dX9_alike_79 : decode cX9_alike 79 = .ok (.if_icmp .ne 7, 3) := by decide +kernel
theorem dX9_alike_82 : decode cX9_alike 82 = .ok (.iconst 1, 1) := by decide +kernel
theorem dX9_alike_83 : decode cX9_alike 83 = .ok (.goto 4, 3) := by decide +kernel
theorem dX9_alike_86 : decode cX9_alike 86 = .ok (.iconst 0, 1) := by decide +kernel
theorem dX9_alike_87 : decode cX9_alike 87 = .ok (.iadd, 1) := by decide +kernel
theorem dX9_alike_88 : decode cX9_alike 88 = .ok (.istore 5, 2) := by decide +kernel
theorem dX9_alike_90 : decode cX9_alike 90 = .ok (.iinc 6 1, 3) := by decide +kernel
theorem dX9_alike_93 : decode cX9_alike 93 = .ok (.goto (-70), 3) := by decide +kernel
theorem dX9_alike_96 : decode cX9_alike 96 = .ok (.iload 5, 2) := by decide +kernel
theorem dX9_alike_98 : decode cX9_alike 98 = .ok (.iload_n 3, 1) := by decide +kernel
theorem dX9_alike_99 : decode cX9_alike 99 = .ok (.if_icmp .le 8, 3) := by decide +kernel
theorem dX9_alike_102 : decode cX9_alike 102 = .ok (.iload 5, 2) := by decide +kernel
theorem dX9_alike_104 : decode cX9_alike 104 = .ok (.goto 4, 3) := by decide +kernel
theorem dX9_alike_107 : decode cX9_alike 107 = .ok (.iload_n 3, 1) := by decide +kernel
theorem dX9_alike_108 : decode cX9_alike 108 = .ok (.istore_n 3, 1) := by decide +kernel
theorem dX9_alike_109 : decode cX9_alike 109 = .ok (.iinc 4 1, 3) := by decide +kernel
theorem dX9_alike_112 : decode cX9_alike 112 = .ok (.goto (-107), 3) := by decide +kernel
theorem dX9_alike_115 : decode cX9_alike 115 = .ok (.iload_n 3, 1) := by decide +kernel
theorem dX9_alike_116 : decode cX9_alike 116 = .ok (.ireturn, 1) := by decide +kernel
theorem dX9_ask_0 : decode cX9_ask 0 = .ok (.aload_n 0, 1) := by decide +kernel
theorem dX9_ask_1 : decode cX9_ask 1 = .ok (.iconst 0, 1) := by decide +kernel
theorem dX9_ask_2 : decode cX9_ask 2 = .ok (.putfield 39, 3) := by decide +kernel
theorem dX9_ask_5 : decode cX9_ask 5 = .ok (.aload_n 0, 1) := by decide +kernel
theorem dX9_ask_6 : decode cX9_ask 6 = .ok (.invokevirtual 168, 3) := by decide +kernel
theorem dX9_ask_9 : decode cX9_ask 9 = .ok (.istore_n 1, 1) := by decide +kernel
theorem dX9_ask_10 : decode cX9_ask 10 = .ok (.iload_n 1, 1) := by decide +kernel
theorem dX9_ask_11 : decode cX9_ask 11 = .ok (.iload_n 1, 1) := by decide +kernel
theorem dX9_ask_12 : decode cX9_ask 12 = .ok (.iconst 1, 1) := by decide +kernel
theorem dX9_ask_13 : decode cX9_ask 13 = .ok (.isub, 1) := by decide +kernel
theorem dX9_ask_14 : decode cX9_ask 14 = .ok (.iand, 1) := by decide +kernel
theorem dX9_ask_15 : decode cX9_ask 15 = .ok (.ifCond .ne 6, 3) := by decide +kernel
theorem dX9_ask_18 : decode cX9_ask 18 = .ok (.bipush (-9), 2) := by decide +kernel
theorem dX9_ask_20 : decode cX9_ask 20 = .ok (.ireturn, 1) := by decide +kernel
theorem dX9_ask_21 : decode cX9_ask 21 = .ok (.aload_n 0, 1) := by decide +kernel
theorem dX9_ask_22 : decode cX9_ask 22 = .ok (.invokevirtual 171, 3) := by decide +kernel
theorem dX9_ask_25 : decode cX9_ask 25 = .ok (.bipush (-9), 2) := by decide +kernel
theorem dX9_ask_27 : decode cX9_ask 27 = .ok (.istore_n 2, 1) := by decide +kernel
theorem dX9_ask_28 : decode cX9_ask 28 = .ok (.iconst 5, 1) := by decide +kernel
theorem dX9_ask_29 : decode cX9_ask 29 = .ok (.istore_n 3, 1) := by decide +kernel
theorem dX9_ask_30 : decode cX9_ask 30 = .ok (.iconst 0, 1) := by decide +kernel
theorem dX9_ask_31 : decode cX9_ask 31 = .ok (.istore 4, 2) := by decide +kernel
theorem dX9_ask_33 : decode cX9_ask 33 = .ok (.iload 4, 2) := by decide +kernel
theorem dX9_ask_35 : decode cX9_ask 35 = .ok (.sipush 1000, 3) := by decide +kernel
theorem dX9_ask_38 : decode cX9_ask 38 = .ok (.if_icmp .ge 44, 3) := by decide +kernel
theorem dX9_ask_41 : decode cX9_ask 41 = .ok (.aload_n 0, 1) := by decide +kernel
theorem dX9_ask_42 : decode cX9_ask 42 = .ok (.iload_n 1, 1) := by decide +kernel
theorem dX9_ask_43 : decode cX9_ask 43 = .ok (.iload 4, 2) := by decide +kernel
theorem dX9_ask_45 : decode cX9_ask 45 = .ok (.invokevirtual 174, 3) := by decide +kernel
theorem dX9_ask_48 : decode cX9_ask 48 = .ok (.istore 5, 2) := by decide +kernel
theorem dX9_ask_50 : decode cX9_ask 50 = .ok (.iload 5, 2) := by decide +kernel
theorem dX9_ask_52 : decode cX9_ask 52 = .ok (.iload_n 3, 1) := by decide +kernel
theorem dX9_ask_53 : decode cX9_ask 53 = .ok (.if_icmp .ge 8, 3) := by decide +kernel
theorem dX9_ask_56 : decode cX9_ask 56 = .ok (.iload 4, 2) := by decide +kernel
theorem dX9_ask_58 : decode cX9_ask 58 = .ok (.goto 4, 3) := by decide +kernel
theorem dX9_ask_61 : decode cX9_ask 61 = .ok (.iload_n 2, 1) := by decide +kernel
theorem dX9_ask_62 : decode cX9_ask 62 = .ok (.istore_n 2, 1) := by decide +kernel
theorem dX9_ask_63 : decode cX9_ask 63 = .ok (.iload 5, 2) := by decide +kernel
theorem dX9_ask_65 : decode cX9_ask 65 = .ok (.iload_n 3, 1) := by decide +kernel
theorem dX9_ask_66 : decode cX9_ask 66 = .ok (.if_icmp .ge 8, 3) := by decide +kernel
theorem dX9_ask_69 : decode cX9_ask 69 = .ok (.iload 5, 2) := by decide +kernel
theorem dX9_ask_71 : decode cX9_ask 71 = .ok (.goto 4, 3) := by decide +kernel
theorem dX9_ask_74 : decode cX9_ask 74 = .ok (.iload_n 3, 1) := by decide +kernel
theorem dX9_ask_75 : decode cX9_ask 75 = .ok (.istore_n 3, 1) := by decide +kernel
theorem dX9_ask_76 : decode cX9_ask 76 = .ok (.iinc 4 1, 3) := by decide +kernel
theorem dX9_ask_79 : decode cX9_ask 79 = .ok (.goto (-46), 3) := by decide +kernel
theorem dX9_ask_82 : decode cX9_ask 82 = .ok (.iload_n 2, 1) := by decide +kernel
theorem dX9_ask_83 : decode cX9_ask 83 = .ok (.ireturn, 1) := by decide +kernel
theorem dX9_keep_0 : decode cX9_keep 0 = .ok (.aload_n 0, 1) := by decide +kernel
theorem dX9_keep_1 : decode cX9_keep 1 = .ok (.iconst 0, 1) := by decide +kernel
theorem dX9_keep_2 : decode cX9_keep 2 = .ok (.putfield 39, 3) := by decide +kernel
theorem dX9_keep_5 : decode cX9_keep 5 = .ok (.iload_n 1, 1) := by decide +kernel
theorem dX9_keep_6 : decode cX9_keep 6 = .ok (.iconst 0, 1) := by decide +kernel
theorem dX9_keep_7 : decode cX9_keep 7 = .ok (.iconst 1, 1) := by decide +kernel
theorem dX9_keep_8 : decode cX9_keep 8 = .ok (.invokestatic 43, 3) := by decide +kernel
theorem dX9_keep_11 : decode cX9_keep 11 = .ok (.ifCond .ne 5, 3) := by decide +kernel
theorem dX9_keep_14 : decode cX9_keep 14 = .ok (.iconst (-1), 1) := by decide +kernel
theorem dX9_keep_15 : decode cX9_keep 15 = .ok (.ireturn, 1) := by decide +kernel
theorem dX9_keep_16 : decode cX9_keep 16 = .ok (.iconst 0, 1) := by decide +kernel
theorem dX9_keep_17 : decode cX9_keep 17 = .ok (.istore_n 2, 1) := by decide +kernel
theorem dX9_keep_18 : decode cX9_keep 18 = .ok (.iload_n 2, 1) := by decide +kernel
theorem dX9_keep_19 : decode cX9_keep 19 = .ok (.bipush 25, 2) := by decide +kernel
theorem dX9_keep_21 : decode cX9_keep 21 = .ok (.if_icmp .ge 26, 3) := by decide +kernel
theorem dX9_keep_24 : decode cX9_keep 24 = .ok (.aload_n 0, 1) := by decide +kernel
theorem dX9_keep_25 : decode cX9_keep 25 = .ok (.getfield 19, 3) := by decide +kernel
theorem dX9_keep_28 : decode cX9_keep 28 = .ok (.bipush 25, 2) := by decide +kernel
theorem dX9_keep_30 : decode cX9_keep 30 = .ok (.iload_n 1, 1) := by decide +kernel
theorem dX9_keep_31 : decode cX9_keep 31 = .ok (.imul, 1) := by decide +kernel
theorem dX9_keep_32 : decode cX9_keep 32 = .ok (.iload_n 2, 1) := by decide +kernel
theorem dX9_keep_33 : decode cX9_keep 33 = .ok (.iadd, 1) := by decide +kernel
theorem dX9_keep_34 : decode cX9_keep 34 = .ok (.aload_n 0, 1) := by decide +kernel
theorem dX9_keep_35 : decode cX9_keep 35 = .ok (.getfield 7, 3) := by decide +kernel
theorem dX9_keep_38 : decode cX9_keep 38 = .ok (.iload_n 2, 1) := by decide +kernel
theorem dX9_keep_39 : decode cX9_keep 39 = .ok (.iaload, 1) := by decide +kernel
theorem dX9_keep_40 : decode cX9_keep 40 = .ok (.iastore, 1) := by decide +kernel
theorem dX9_keep_41 : decode cX9_keep 41 = .ok (.iinc 2 1, 3) := by decide +kernel
theorem dX9_keep_44 : decode cX9_keep 44 = .ok (.goto (-26), 3) := by decide +kernel
theorem dX9_keep_47 : decode cX9_keep 47 = .ok (.aload_n 0, 1) := by decide +kernel
theorem dX9_keep_48 : decode cX9_keep 48 = .ok (.getfield 22, 3) := by decide +kernel
theorem dX9_keep_51 : decode cX9_keep 51 = .ok (.iload_n 1, 1) := by decide +kernel
theorem dX9_keep_52 : decode cX9_keep 52 = .ok (.iconst 1, 1) := by decide +kernel
theorem dX9_keep_53 : decode cX9_keep 53 = .ok (.bastore, 1) := by decide +kernel
theorem dX9_keep_54 : decode cX9_keep 54 = .ok (.aload_n 0, 1) := by decide +kernel
theorem dX9_keep_55 : decode cX9_keep 55 = .ok (.getfield 7, 3) := by decide +kernel
theorem dX9_keep_58 : decode cX9_keep 58 = .ok (.bipush 24, 2) := by decide +kernel
theorem dX9_keep_60 : decode cX9_keep 60 = .ok (.iaload, 1) := by decide +kernel
theorem dX9_keep_61 : decode cX9_keep 61 = .ok (.ireturn, 1) := by decide +kernel
theorem dX9_back_0 : decode cX9_back 0 = .ok (.aload_n 0, 1) := by decide +kernel
theorem dX9_back_1 : decode cX9_back 1 = .ok (.iconst 0, 1) := by decide +kernel
theorem dX9_back_2 : decode cX9_back 2 = .ok (.putfield 39, 3) := by decide +kernel
theorem dX9_back_5 : decode cX9_back 5 = .ok (.iload_n 1, 1) := by decide +kernel
theorem dX9_back_6 : decode cX9_back 6 = .ok (.iconst 0, 1) := by decide +kernel
theorem dX9_back_7 : decode cX9_back 7 = .ok (.iconst 1, 1) := by decide +kernel
theorem dX9_back_8 : decode cX9_back 8 = .ok (.invokestatic 43, 3) := by decide +kernel
theorem dX9_back_11 : decode cX9_back 11 = .ok (.ifCond .ne 5, 3) := by decide +kernel
theorem dX9_back_14 : decode cX9_back 14 = .ok (.iconst (-1), 1) := by decide +kernel
theorem dX9_back_15 : decode cX9_back 15 = .ok (.ireturn, 1) := by decide +kernel
theorem dX9_back_16 : decode cX9_back 16 = .ok (.aload_n 0, 1) := by decide +kernel
theorem dX9_back_17 : decode cX9_back 17 = .ok (.getfield 22, 3) := by decide +kernel
theorem dX9_back_20 : decode cX9_back 20 = .ok (.iload_n 1, 1) := by decide +kernel
theorem dX9_back_21 : decode cX9_back 21 = .ok (.baload, 1) := by decide +kernel
theorem dX9_back_22 : decode cX9_back 22 = .ok (.ifCond .ne 6, 3) := by decide +kernel
theorem dX9_back_25 : decode cX9_back 25 = .ok (.bipush (-2), 2) := by decide +kernel
theorem dX9_back_27 : decode cX9_back 27 = .ok (.ireturn, 1) := by decide +kernel
theorem dX9_back_28 : decode cX9_back 28 = .ok (.iconst 0, 1) := by decide +kernel
theorem dX9_back_29 : decode cX9_back 29 = .ok (.istore_n 2, 1) := by decide +kernel
theorem dX9_back_30 : decode cX9_back 30 = .ok (.iload_n 2, 1) := by decide +kernel
theorem dX9_back_31 : decode cX9_back 31 = .ok (.bipush 25, 2) := by decide +kernel
theorem dX9_back_33 : decode cX9_back 33 = .ok (.if_icmp .ge 26, 3) := by decide +kernel
theorem dX9_back_36 : decode cX9_back 36 = .ok (.aload_n 0, 1) := by decide +kernel
theorem dX9_back_37 : decode cX9_back 37 = .ok (.getfield 7, 3) := by decide +kernel
theorem dX9_back_40 : decode cX9_back 40 = .ok (.iload_n 2, 1) := by decide +kernel
theorem dX9_back_41 : decode cX9_back 41 = .ok (.aload_n 0, 1) := by decide +kernel
theorem dX9_back_42 : decode cX9_back 42 = .ok (.getfield 19, 3) := by decide +kernel
theorem dX9_back_45 : decode cX9_back 45 = .ok (.bipush 25, 2) := by decide +kernel
theorem dX9_back_47 : decode cX9_back 47 = .ok (.iload_n 1, 1) := by decide +kernel
theorem dX9_back_48 : decode cX9_back 48 = .ok (.imul, 1) := by decide +kernel
theorem dX9_back_49 : decode cX9_back 49 = .ok (.iload_n 2, 1) := by decide +kernel
theorem dX9_back_50 : decode cX9_back 50 = .ok (.iadd, 1) := by decide +kernel
theorem dX9_back_51 : decode cX9_back 51 = .ok (.iaload, 1) := by decide +kernel
theorem dX9_back_52 : decode cX9_back 52 = .ok (.iastore, 1) := by decide +kernel
theorem dX9_back_53 : decode cX9_back 53 = .ok (.iinc 2 1, 3) := by decide +kernel
theorem dX9_back_56 : decode cX9_back 56 = .ok (.goto (-26), 3) := by decide +kernel
theorem dX9_back_59 : decode cX9_back 59 = .ok (.aload_n 0, 1) := by decide +kernel
theorem dX9_back_60 : decode cX9_back 60 = .ok (.iconst 0, 1) := by decide +kernel
theorem dX9_back_61 : decode cX9_back 61 = .ok (.putfield 124, 3) := by decide +kernel
theorem dX9_back_64 : decode cX9_back 64 = .ok (.aload_n 0, 1) := by decide +kernel
theorem dX9_back_65 : decode cX9_back 65 = .ok (.getfield 7, 3) := by decide +kernel
theorem dX9_back_68 : decode cX9_back 68 = .ok (.bipush 24, 2) := by decide +kernel
theorem dX9_back_70 : decode cX9_back 70 = .ok (.iaload, 1) := by decide +kernel
theorem dX9_back_71 : decode cX9_back 71 = .ok (.ireturn, 1) := by decide +kernel
theorem dX9_sum_0 : decode cX9_sum 0 = .ok (.iconst 0, 1) := by decide +kernel
theorem dX9_sum_1 : decode cX9_sum 1 = .ok (.istore_n 2, 1) := by decide +kernel
theorem dX9_sum_2 : decode cX9_sum 2 = .ok (.iconst 0, 1) := by decide +kernel
theorem dX9_sum_3 : decode cX9_sum 3 = .ok (.istore_n 3, 1) := by decide +kernel
theorem dX9_sum_4 : decode cX9_sum 4 = .ok (.iload_n 3, 1) := by decide +kernel
theorem dX9_sum_5 : decode cX9_sum 5 = .ok (.aload_n 0, 1) := by decide +kernel
theorem dX9_sum_6 : decode cX9_sum 6 = .ok (.getfield 7, 3) := by decide +kernel
theorem dX9_sum_9 : decode cX9_sum 9 = .ok (.bipush 24, 2) := by decide +kernel
theorem dX9_sum_11 : decode cX9_sum 11 = .ok (.iaload, 1) := by decide +kernel
theorem dX9_sum_12 : decode cX9_sum 12 = .ok (.if_icmp .ge 18, 3) := by decide +kernel
theorem dX9_sum_15 : decode cX9_sum 15 = .ok (.iload_n 2, 1) := by decide +kernel
theorem dX9_sum_16 : decode cX9_sum 16 = .ok (.aload_n 0, 1) := by decide +kernel
theorem dX9_sum_17 : decode cX9_sum 17 = .ok (.iload_n 3, 1) := by decide +kernel
theorem dX9_sum_18 : decode cX9_sum 18 = .ok (.iload_n 1, 1) := by decide +kernel
theorem dX9_sum_19 : decode cX9_sum 19 = .ok (.invokevirtual 103, 3) := by decide +kernel
theorem dX9_sum_22 : decode cX9_sum 22 = .ok (.iadd, 1) := by decide +kernel
theorem dX9_sum_23 : decode cX9_sum 23 = .ok (.istore_n 2, 1) := by decide +kernel
theorem dX9_sum_24 : decode cX9_sum 24 = .ok (.iinc 3 1, 3) := by decide +kernel
theorem dX9_sum_27 : decode cX9_sum 27 = .ok (.goto (-23), 3) := by decide +kernel
theorem dX9_sum_30 : decode cX9_sum 30 = .ok (.iload_n 2, 1) := by decide +kernel
theorem dX9_sum_31 : decode cX9_sum 31 = .ok (.ireturn, 1) := by decide +kernel
theorem dX9_count_0 : decode cX9_count 0 = .ok (.aload_n 0, 1) := by decide +kernel
theorem dX9_count_1 : decode cX9_count 1 = .ok (.iconst 0, 1) := by decide +kernel
theorem dX9_count_2 : decode cX9_count 2 = .ok (.putfield 39, 3) := by decide +kernel
theorem dX9_count_5 : decode cX9_count 5 = .ok (.iload_n 1, 1) := by decide +kernel
theorem dX9_count_6 : decode cX9_count 6 = .ok (.tableswitch 73 0 5 #[38, 46, 52, 58, 63, 68], 38) := by decide +kernel
theorem dX9_count_44 : decode cX9_count 44 = .ok (.aload_n 0, 1) := by decide +kernel
theorem dX9_count_45 : decode cX9_count 45 = .ok (.getfield 7, 3) := by decide +kernel
theorem dX9_count_48 : decode cX9_count 48 = .ok (.bipush 24, 2) := by decide +kernel
theorem dX9_count_50 : decode cX9_count 50 = .ok (.iaload, 1) := by decide +kernel
theorem dX9_count_51 : decode cX9_count 51 = .ok (.ireturn, 1) := by decide +kernel
theorem dX9_count_52 : decode cX9_count 52 = .ok (.aload_n 0, 1) := by decide +kernel
theorem dX9_count_53 : decode cX9_count 53 = .ok (.iconst 4, 1) := by decide +kernel
theorem dX9_count_54 : decode cX9_count 54 = .ok (.invokevirtual 177, 3) := by decide +kernel
theorem dX9_count_57 : decode cX9_count 57 = .ok (.ireturn, 1) := by decide +kernel
theorem dX9_count_58 : decode cX9_count 58 = .ok (.aload_n 0, 1) := by decide +kernel
theorem dX9_count_59 : decode cX9_count 59 = .ok (.iconst 5, 1) := by decide +kernel
theorem dX9_count_60 : decode cX9_count 60 = .ok (.invokevirtual 177, 3) := by decide +kernel
theorem dX9_count_63 : decode cX9_count 63 = .ok (.ireturn, 1) := by decide +kernel
theorem dX9_count_64 : decode cX9_count 64 = .ok (.aload_n 0, 1) := by decide +kernel
theorem dX9_count_65 : decode cX9_count 65 = .ok (.getfield 165, 3) := by decide +kernel
theorem dX9_count_68 : decode cX9_count 68 = .ok (.ireturn, 1) := by decide +kernel
theorem dX9_count_69 : decode cX9_count 69 = .ok (.aload_n 0, 1) := by decide +kernel
theorem dX9_count_70 : decode cX9_count 70 = .ok (.getfield 47, 3) := by decide +kernel
theorem dX9_count_73 : decode cX9_count 73 = .ok (.ireturn, 1) := by decide +kernel
theorem dX9_count_74 : decode cX9_count 74 = .ok (.aload_n 0, 1) := by decide +kernel
theorem dX9_count_75 : decode cX9_count 75 = .ok (.getfield 124, 3) := by decide +kernel
theorem dX9_count_78 : decode cX9_count 78 = .ok (.ireturn, 1) := by decide +kernel
theorem dX9_count_79 : decode cX9_count 79 = .ok (.iconst (-1), 1) := by decide +kernel
theorem dX9_count_80 : decode cX9_count 80 = .ok (.ireturn, 1) := by decide +kernel
theorem dJ6_bitCount_0f7a4_0 : decode cJ6_bitCount_0f7a4 0 = .ok (.iload_n 0, 1) := by decide +kernel
theorem dJ6_bitCount_0f7a4_1 : decode cJ6_bitCount_0f7a4 1 = .ok (.iload_n 0, 1) := by decide +kernel
theorem dJ6_bitCount_0f7a4_2 : decode cJ6_bitCount_0f7a4 2 = .ok (.iconst 1, 1) := by decide +kernel
theorem dJ6_bitCount_0f7a4_3 : decode cJ6_bitCount_0f7a4 3 = .ok (.iushr, 1) := by decide +kernel
theorem dJ6_bitCount_0f7a4_4 : decode cJ6_bitCount_0f7a4 4 = .ok (.ldc_w 265, 3) := by decide +kernel
theorem dJ6_bitCount_0f7a4_7 : decode cJ6_bitCount_0f7a4 7 = .ok (.iand, 1) := by decide +kernel
theorem dJ6_bitCount_0f7a4_8 : decode cJ6_bitCount_0f7a4 8 = .ok (.isub, 1) := by decide +kernel
theorem dJ6_bitCount_0f7a4_9 : decode cJ6_bitCount_0f7a4 9 = .ok (.istore_n 0, 1) := by decide +kernel
theorem dJ6_bitCount_0f7a4_10 : decode cJ6_bitCount_0f7a4 10 = .ok (.iload_n 0, 1) := by decide +kernel
theorem dJ6_bitCount_0f7a4_11 : decode cJ6_bitCount_0f7a4 11 = .ok (.ldc_w 266, 3) := by decide +kernel
theorem dJ6_bitCount_0f7a4_14 : decode cJ6_bitCount_0f7a4 14 = .ok (.iand, 1) := by decide +kernel
theorem dJ6_bitCount_0f7a4_15 : decode cJ6_bitCount_0f7a4 15 = .ok (.iload_n 0, 1) := by decide +kernel
theorem dJ6_bitCount_0f7a4_16 : decode cJ6_bitCount_0f7a4 16 = .ok (.iconst 2, 1) := by decide +kernel
theorem dJ6_bitCount_0f7a4_17 : decode cJ6_bitCount_0f7a4 17 = .ok (.iushr, 1) := by decide +kernel
theorem dJ6_bitCount_0f7a4_18 : decode cJ6_bitCount_0f7a4 18 = .ok (.ldc_w 266, 3) := by decide +kernel
theorem dJ6_bitCount_0f7a4_21 : decode cJ6_bitCount_0f7a4 21 = .ok (.iand, 1) := by decide +kernel
theorem dJ6_bitCount_0f7a4_22 : decode cJ6_bitCount_0f7a4 22 = .ok (.iadd, 1) := by decide +kernel
theorem dJ6_bitCount_0f7a4_23 : decode cJ6_bitCount_0f7a4 23 = .ok (.istore_n 0, 1) := by decide +kernel
theorem dJ6_bitCount_0f7a4_24 : decode cJ6_bitCount_0f7a4 24 = .ok (.iload_n 0, 1) := by decide +kernel
theorem dJ6_bitCount_0f7a4_25 : decode cJ6_bitCount_0f7a4 25 = .ok (.iload_n 0, 1) := by decide +kernel
theorem dJ6_bitCount_0f7a4_26 : decode cJ6_bitCount_0f7a4 26 = .ok (.iconst 4, 1) := by decide +kernel
theorem dJ6_bitCount_0f7a4_27 : decode cJ6_bitCount_0f7a4 27 = .ok (.iushr, 1) := by decide +kernel
theorem dJ6_bitCount_0f7a4_28 : decode cJ6_bitCount_0f7a4 28 = .ok (.iadd, 1) := by decide +kernel
theorem dJ6_bitCount_0f7a4_29 : decode cJ6_bitCount_0f7a4 29 = .ok (.ldc_w 267, 3) := by decide +kernel
theorem dJ6_bitCount_0f7a4_32 : decode cJ6_bitCount_0f7a4 32 = .ok (.iand, 1) := by decide +kernel
theorem dJ6_bitCount_0f7a4_33 : decode cJ6_bitCount_0f7a4 33 = .ok (.istore_n 0, 1) := by decide +kernel
theorem dJ6_bitCount_0f7a4_34 : decode cJ6_bitCount_0f7a4 34 = .ok (.iload_n 0, 1) := by decide +kernel
theorem dJ6_bitCount_0f7a4_35 : decode cJ6_bitCount_0f7a4 35 = .ok (.iload_n 0, 1) := by decide +kernel
theorem dJ6_bitCount_0f7a4_36 : decode cJ6_bitCount_0f7a4 36 = .ok (.bipush 8, 2) := by decide +kernel
theorem dJ6_bitCount_0f7a4_38 : decode cJ6_bitCount_0f7a4 38 = .ok (.iushr, 1) := by decide +kernel
theorem dJ6_bitCount_0f7a4_39 : decode cJ6_bitCount_0f7a4 39 = .ok (.iadd, 1) := by decide +kernel
theorem dJ6_bitCount_0f7a4_40 : decode cJ6_bitCount_0f7a4 40 = .ok (.istore_n 0, 1) := by decide +kernel
theorem dJ6_bitCount_0f7a4_41 : decode cJ6_bitCount_0f7a4 41 = .ok (.iload_n 0, 1) := by decide +kernel
theorem dJ6_bitCount_0f7a4_42 : decode cJ6_bitCount_0f7a4 42 = .ok (.iload_n 0, 1) := by decide +kernel
theorem dJ6_bitCount_0f7a4_43 : decode cJ6_bitCount_0f7a4 43 = .ok (.bipush 16, 2) := by decide +kernel
theorem dJ6_bitCount_0f7a4_45 : decode cJ6_bitCount_0f7a4 45 = .ok (.iushr, 1) := by decide +kernel
theorem dJ6_bitCount_0f7a4_46 : decode cJ6_bitCount_0f7a4 46 = .ok (.iadd, 1) := by decide +kernel
theorem dJ6_bitCount_0f7a4_47 : decode cJ6_bitCount_0f7a4 47 = .ok (.istore_n 0, 1) := by decide +kernel
theorem dJ6_bitCount_0f7a4_48 : decode cJ6_bitCount_0f7a4 48 = .ok (.iload_n 0, 1) := by decide +kernel
theorem dJ6_bitCount_0f7a4_49 : decode cJ6_bitCount_0f7a4 49 = .ok (.bipush 63, 2) := by decide +kernel
theorem dJ6_bitCount_0f7a4_51 : decode cJ6_bitCount_0f7a4 51 = .ok (.iand, 1) := by decide +kernel
theorem dJ6_bitCount_0f7a4_52 : decode cJ6_bitCount_0f7a4 52 = .ok (.ireturn, 1) := by decide +kernel
theorem dJ9_max_7cf53_0 : decode cJ9_max_7cf53 0 = .ok (.iload_n 0, 1) := by decide +kernel
theorem dJ9_max_7cf53_1 : decode cJ9_max_7cf53 1 = .ok (.iload_n 1, 1) := by decide +kernel
theorem dJ9_max_7cf53_2 : decode cJ9_max_7cf53 2 = .ok (.if_icmp .lt 7, 3) := by decide +kernel
theorem dJ9_max_7cf53_5 : decode cJ9_max_7cf53 5 = .ok (.iload_n 0, 1) := by decide +kernel
theorem dJ9_max_7cf53_6 : decode cJ9_max_7cf53 6 = .ok (.goto 4, 3) := by decide +kernel
theorem dJ9_max_7cf53_9 : decode cJ9_max_7cf53 9 = .ok (.iload_n 1, 1) := by decide +kernel
theorem dJ9_max_7cf53_10 : decode cJ9_max_7cf53 10 = .ok (.ireturn, 1) := by decide +kernel
theorem dJ9_min_7cf53_0 : decode cJ9_min_7cf53 0 = .ok (.iload_n 0, 1) := by decide +kernel
theorem dJ9_min_7cf53_1 : decode cJ9_min_7cf53 1 = .ok (.iload_n 1, 1) := by decide +kernel
theorem dJ9_min_7cf53_2 : decode cJ9_min_7cf53 2 = .ok (.if_icmp .gt 7, 3) := by decide +kernel
theorem dJ9_min_7cf53_5 : decode cJ9_min_7cf53 5 = .ok (.iload_n 0, 1) := by decide +kernel
theorem dJ9_min_7cf53_6 : decode cJ9_min_7cf53 6 = .ok (.goto 4, 3) := by decide +kernel
theorem dJ9_min_7cf53_9 : decode cJ9_min_7cf53 9 = .ok (.iload_n 1, 1) := by decide +kernel
theorem dJ9_min_7cf53_10 : decode cJ9_min_7cf53 10 = .ok (.ireturn, 1) := by decide +kernel
theorem dJ0_length_8abf5_0 : decode cJ0_length_8abf5 0 = .ok (.aload_n 0, 1) := by decide +kernel
theorem dJ0_length_8abf5_1 : decode cJ0_length_8abf5 1 = .ok (.getfield 9, 3) := by decide +kernel
theorem dJ0_length_8abf5_4 : decode cJ0_length_8abf5 4 = .ok (.arraylength, 1) := by decide +kernel
theorem dJ0_length_8abf5_5 : decode cJ0_length_8abf5 5 = .ok (.aload_n 0, 1) := by decide +kernel
theorem dJ0_length_8abf5_6 : decode cJ0_length_8abf5 6 = .ok (.invokevirtual 335, 3) := by decide +kernel
theorem dJ0_length_8abf5_9 : decode cJ0_length_8abf5 9 = .ok (.ishr, 1) := by decide +kernel
theorem dJ0_length_8abf5_10 : decode cJ0_length_8abf5 10 = .ok (.ireturn, 1) := by decide +kernel
theorem dJ0_charAt_5068e_0 : decode cJ0_charAt_5068e 0 = .ok (.aload_n 0, 1) := by decide +kernel
theorem dJ0_charAt_5068e_1 : decode cJ0_charAt_5068e 1 = .ok (.invokevirtual 492, 3) := by decide +kernel
theorem dJ0_charAt_5068e_4 : decode cJ0_charAt_5068e 4 = .ok (.ifCond .eq 12, 3) := by decide +kernel
theorem dJ0_charAt_5068e_7 : decode cJ0_charAt_5068e 7 = .ok (.aload_n 0, 1) := by decide +kernel
theorem dJ0_charAt_5068e_8 : decode cJ0_charAt_5068e 8 = .ok (.getfield 9, 3) := by decide +kernel
theorem dJ0_charAt_5068e_11 : decode cJ0_charAt_5068e 11 = .ok (.iload_n 1, 1) := by decide +kernel
theorem dJ0_charAt_5068e_12 : decode cJ0_charAt_5068e 12 = .ok (.invokestatic 495, 3) := by decide +kernel
theorem dJ0_charAt_5068e_15 : decode cJ0_charAt_5068e 15 = .ok (.ireturn, 1) := by decide +kernel
theorem dJ0_charAt_5068e_16 : decode cJ0_charAt_5068e 16 = .ok (.aload_n 0, 1) := by decide +kernel
theorem dJ0_charAt_5068e_17 : decode cJ0_charAt_5068e 17 = .ok (.getfield 9, 3) := by decide +kernel
theorem dJ0_charAt_5068e_20 : decode cJ0_charAt_5068e 20 = .ok (.iload_n 1, 1) := by decide +kernel
theorem dJ0_charAt_5068e_21 : decode cJ0_charAt_5068e 21 = .ok (.invokestatic 498, 3) := by decide +kernel
theorem dJ0_charAt_5068e_24 : decode cJ0_charAt_5068e 24 = .ok (.ireturn, 1) := by decide +kernel
theorem dJ0_coder_7d493_0 : decode cJ0_coder_7d493 0 = .ok (.getstatic 38, 3) := by decide +kernel
theorem dJ0_coder_7d493_3 : decode cJ0_coder_7d493 3 = .ok (.ifCond .eq 10, 3) := by decide +kernel
theorem dJ0_coder_7d493_6 : decode cJ0_coder_7d493 6 = .ok (.aload_n 0, 1) := by decide +kernel
theorem dJ0_coder_7d493_7 : decode cJ0_coder_7d493 7 = .ok (.getfield 15, 3) := by decide +kernel
theorem dJ0_coder_7d493_10 : decode cJ0_coder_7d493 10 = .ok (.goto 4, 3) := by decide +kernel
theorem dJ0_coder_7d493_13 : decode cJ0_coder_7d493 13 = .ok (.iconst 1, 1) := by decide +kernel
theorem dJ0_coder_7d493_14 : decode cJ0_coder_7d493 14 = .ok (.ireturn, 1) := by decide +kernel
theorem dJ0_isLatin1_aae02_0 : decode cJ0_isLatin1_aae02 0 = .ok (.getstatic 38, 3) := by decide +kernel
theorem dJ0_isLatin1_aae02_3 : decode cJ0_isLatin1_aae02 3 = .ok (.ifCond .eq 14, 3) := by decide +kernel
theorem dJ0_isLatin1_aae02_6 : decode cJ0_isLatin1_aae02 6 = .ok (.aload_n 0, 1) := by decide +kernel
theorem dJ0_isLatin1_aae02_7 : decode cJ0_isLatin1_aae02 7 = .ok (.getfield 15, 3) := by decide +kernel
theorem dJ0_isLatin1_aae02_10 : decode cJ0_isLatin1_aae02 10 = .ok (.ifCond .ne 7, 3) := by decide +kernel
theorem dJ0_isLatin1_aae02_13 : decode cJ0_isLatin1_aae02 13 = .ok (.iconst 1, 1) := by decide +kernel
theorem dJ0_isLatin1_aae02_14 : decode cJ0_isLatin1_aae02 14 = .ok (.goto 4, 3) := by decide +kernel
theorem dJ0_isLatin1_aae02_17 : decode cJ0_isLatin1_aae02 17 = .ok (.iconst 0, 1) := by decide +kernel
theorem dJ0_isLatin1_aae02_18 : decode cJ0_isLatin1_aae02 18 = .ok (.ireturn, 1) := by decide +kernel
theorem dJ0_checkIndex_df160_0 : decode cJ0_checkIndex_df160 0 = .ok (.iload_n 0, 1) := by decide +kernel
theorem dJ0_checkIndex_df160_1 : decode cJ0_checkIndex_df160 1 = .ok (.iload_n 1, 1) := by decide +kernel
theorem dJ0_checkIndex_df160_2 : decode cJ0_checkIndex_df160 2 = .ok (.getstatic 1053, 3) := by decide +kernel
theorem dJ0_checkIndex_df160_5 : decode cJ0_checkIndex_df160 5 = .ok (.invokestatic 1059, 3) := by decide +kernel
theorem dJ0_checkIndex_df160_8 : decode cJ0_checkIndex_df160 8 = .ok (.pop, 1) := by decide +kernel
theorem dJ0_checkIndex_df160_9 : decode cJ0_checkIndex_df160 9 = .ok (.return_, 1) := by decide +kernel
theorem dJ1_charAt_3b067_0 : decode cJ1_charAt_3b067 0 = .ok (.iload_n 1, 1) := by decide +kernel
theorem dJ1_charAt_3b067_1 : decode cJ1_charAt_3b067 1 = .ok (.aload_n 0, 1) := by decide +kernel
theorem dJ1_charAt_3b067_2 : decode cJ1_charAt_3b067 2 = .ok (.arraylength, 1) := by decide +kernel
theorem dJ1_charAt_3b067_3 : decode cJ1_charAt_3b067 3 = .ok (.invokestatic 9, 3) := by decide +kernel
theorem dJ1_charAt_3b067_6 : decode cJ1_charAt_3b067 6 = .ok (.aload_n 0, 1) := by decide +kernel
theorem dJ1_charAt_3b067_7 : decode cJ1_charAt_3b067 7 = .ok (.iload_n 1, 1) := by decide +kernel
theorem dJ1_charAt_3b067_8 : decode cJ1_charAt_3b067 8 = .ok (.baload, 1) := by decide +kernel
theorem dJ1_charAt_3b067_9 : decode cJ1_charAt_3b067 9 = .ok (.sipush 255, 3) := by decide +kernel
theorem dJ1_charAt_3b067_12 : decode cJ1_charAt_3b067 12 = .ok (.iand, 1) := by decide +kernel
theorem dJ1_charAt_3b067_13 : decode cJ1_charAt_3b067 13 = .ok (.i2c, 1) := by decide +kernel
theorem dJ1_charAt_3b067_14 : decode cJ1_charAt_3b067 14 = .ok (.ireturn, 1) := by decide +kernel
theorem dJ2_getChar_3b067_0 : decode cJ2_getChar_3b067 0 = .ok (.getstatic 44, 3) := by decide +kernel
theorem dJ2_getChar_3b067_3 : decode cJ2_getChar_3b067 3 = .ok (.ifCond .ne 25, 3) := by decide +kernel
theorem dJ2_getChar_3b067_6 : decode cJ2_getChar_3b067 6 = .ok (.iload_n 1, 1) := by decide +kernel
theorem dJ2_getChar_3b067_7 : decode cJ2_getChar_3b067 7 = .ok (.ifCond .lt 11, 3) := by decide +kernel
theorem dJ2_getChar_3b067_10 : decode cJ2_getChar_3b067 10 = .ok (.iload_n 1, 1) := by decide +kernel
theorem dJ2_getChar_3b067_11 : decode cJ2_getChar_3b067 11 = .ok (.aload_n 0, 1) := by decide +kernel
theorem dJ2_getChar_3b067_12 : decode cJ2_getChar_3b067 12 = .ok (.invokestatic 48, 3) := by decide +kernel
theorem dJ2_getChar_3b067_15 : decode cJ2_getChar_3b067 15 = .ok (.if_icmp .lt 13, 3) := by decide +kernel
theorem dJ2_getChar_3b067_18 : decode cJ2_getChar_3b067 18 = .ok (.new 52, 3) := by decide +kernel
theorem dJ2_getChar_3b067_21 : decode cJ2_getChar_3b067 21 = .ok (.dup, 1) := by decide +kernel
theorem dJ2_getChar_3b067_22 : decode cJ2_getChar_3b067 22 = .ok (.ldc 54, 2) := by decide +kernel
theorem dJ2_getChar_3b067_24 : decode cJ2_getChar_3b067 24 = .ok (.invokespecial 56, 3) := by decide +kernel
theorem dJ2_getChar_3b067_27 : decode cJ2_getChar_3b067 27 = .ok (.athrow, 1) := by decide +kernel
theorem dJ2_getChar_3b067_28 : decode cJ2_getChar_3b067 28 = .ok (.iload_n 1, 1) := by decide +kernel
theorem dJ2_getChar_3b067_29 : decode cJ2_getChar_3b067 29 = .ok (.iconst 1, 1) := by decide +kernel
theorem dJ2_getChar_3b067_30 : decode cJ2_getChar_3b067 30 = .ok (.ishl, 1) := by decide +kernel
theorem dJ2_getChar_3b067_31 : decode cJ2_getChar_3b067 31 = .ok (.istore_n 1, 1) := by decide +kernel
theorem dJ2_getChar_3b067_32 : decode cJ2_getChar_3b067 32 = .ok (.aload_n 0, 1) := by decide +kernel
theorem dJ2_getChar_3b067_33 : decode cJ2_getChar_3b067 33 = .ok (.iload_n 1, 1) := by decide +kernel
theorem dJ2_getChar_3b067_34 : decode cJ2_getChar_3b067 34 = .ok (.iinc 1 1, 3) := by decide +kernel
theorem dJ2_getChar_3b067_37 : decode cJ2_getChar_3b067 37 = .ok (.baload, 1) := by decide +kernel
theorem dJ2_getChar_3b067_38 : decode cJ2_getChar_3b067 38 = .ok (.sipush 255, 3) := by decide +kernel
theorem dJ2_getChar_3b067_41 : decode cJ2_getChar_3b067 41 = .ok (.iand, 1) := by decide +kernel
theorem dJ2_getChar_3b067_42 : decode cJ2_getChar_3b067 42 = .ok (.getstatic 59, 3) := by decide +kernel
theorem dJ2_getChar_3b067_45 : decode cJ2_getChar_3b067 45 = .ok (.ishl, 1) := by decide +kernel
theorem dJ2_getChar_3b067_46 : decode cJ2_getChar_3b067 46 = .ok (.aload_n 0, 1) := by decide +kernel
theorem dJ2_getChar_3b067_47 : decode cJ2_getChar_3b067 47 = .ok (.iload_n 1, 1) := by decide +kernel
theorem dJ2_getChar_3b067_48 : decode cJ2_getChar_3b067 48 = .ok (.baload, 1) := by decide +kernel
theorem dJ2_getChar_3b067_49 : decode cJ2_getChar_3b067 49 = .ok (.sipush 255, 3) := by decide +kernel
theorem dJ2_getChar_3b067_52 : decode cJ2_getChar_3b067 52 = .ok (.iand, 1) := by decide +kernel
theorem dJ2_getChar_3b067_53 : decode cJ2_getChar_3b067 53 = .ok (.getstatic 63, 3) := by decide +kernel
theorem dJ2_getChar_3b067_56 : decode cJ2_getChar_3b067 56 = .ok (.ishl, 1) := by decide +kernel
theorem dJ2_getChar_3b067_57 : decode cJ2_getChar_3b067 57 = .ok (.ior, 1) := by decide +kernel
theorem dJ2_getChar_3b067_58 : decode cJ2_getChar_3b067 58 = .ok (.i2c, 1) := by decide +kernel
theorem dJ2_getChar_3b067_59 : decode cJ2_getChar_3b067 59 = .ok (.ireturn, 1) := by decide +kernel
theorem dJ2_length_9d52b_0 : decode cJ2_length_9d52b 0 = .ok (.aload_n 0, 1) := by decide +kernel
theorem dJ2_length_9d52b_1 : decode cJ2_length_9d52b 1 = .ok (.arraylength, 1) := by decide +kernel
theorem dJ2_length_9d52b_2 : decode cJ2_length_9d52b 2 = .ok (.iconst 1, 1) := by decide +kernel
theorem dJ2_length_9d52b_3 : decode cJ2_length_9d52b 3 = .ok (.ishr, 1) := by decide +kernel
theorem dJ2_length_9d52b_4 : decode cJ2_length_9d52b 4 = .ok (.ireturn, 1) := by decide +kernel
theorem dJ2_charAt_3b067_0 : decode cJ2_charAt_3b067 0 = .ok (.iload_n 1, 1) := by decide +kernel
theorem dJ2_charAt_3b067_1 : decode cJ2_charAt_3b067 1 = .ok (.aload_n 0, 1) := by decide +kernel
theorem dJ2_charAt_3b067_2 : decode cJ2_charAt_3b067 2 = .ok (.invokestatic 67, 3) := by decide +kernel
theorem dJ2_charAt_3b067_5 : decode cJ2_charAt_3b067 5 = .ok (.aload_n 0, 1) := by decide +kernel
theorem dJ2_charAt_3b067_6 : decode cJ2_charAt_3b067 6 = .ok (.iload_n 1, 1) := by decide +kernel
theorem dJ2_charAt_3b067_7 : decode cJ2_charAt_3b067 7 = .ok (.invokestatic 71, 3) := by decide +kernel
theorem dJ2_charAt_3b067_10 : decode cJ2_charAt_3b067 10 = .ok (.ireturn, 1) := by decide +kernel
theorem dJ2_checkIndex_2214a_0 : decode cJ2_checkIndex_2214a 0 = .ok (.iload_n 0, 1) := by decide +kernel
theorem dJ2_checkIndex_2214a_1 : decode cJ2_checkIndex_2214a 1 = .ok (.aload_n 1, 1) := by decide +kernel
theorem dJ2_checkIndex_2214a_2 : decode cJ2_checkIndex_2214a 2 = .ok (.invokestatic 48, 3) := by decide +kernel
theorem dJ2_checkIndex_2214a_5 : decode cJ2_checkIndex_2214a 5 = .ok (.invokestatic 414, 3) := by decide +kernel
theorem dJ2_checkIndex_2214a_8 : decode cJ2_checkIndex_2214a 8 = .ok (.return_, 1) := by decide +kernel
theorem dJ3_checkIndex_8e157_0 : decode cJ3_checkIndex_8e157 0 = .ok (.iload_n 0, 1) := by decide +kernel
theorem dJ3_checkIndex_8e157_1 : decode cJ3_checkIndex_8e157 1 = .ok (.ifCond .lt 8, 3) := by decide +kernel
theorem dJ3_checkIndex_8e157_4 : decode cJ3_checkIndex_8e157 4 = .ok (.iload_n 0, 1) := by decide +kernel
theorem dJ3_checkIndex_8e157_5 : decode cJ3_checkIndex_8e157 5 = .ok (.iload_n 1, 1) := by decide +kernel
theorem dJ3_checkIndex_8e157_6 : decode cJ3_checkIndex_8e157 6 = .ok (.if_icmp .lt 10, 3) := by decide +kernel
theorem dJ3_checkIndex_8e157_9 : decode cJ3_checkIndex_8e157 9 = .ok (.aload_n 2, 1) := by decide +kernel
theorem dJ3_checkIndex_8e157_10 : decode cJ3_checkIndex_8e157 10 = .ok (.iload_n 0, 1) := by decide +kernel
theorem dJ3_checkIndex_8e157_11 : decode cJ3_checkIndex_8e157 11 = .ok (.iload_n 1, 1) := by decide +kernel
theorem dJ3_checkIndex_8e157_12 : decode cJ3_checkIndex_8e157 12 = .ok (.invokestatic 95, 3) := by decide +kernel
theorem dJ3_checkIndex_8e157_15 : decode cJ3_checkIndex_8e157 15 = .ok (.athrow, 1) := by decide +kernel
theorem dJ3_checkIndex_8e157_16 : decode cJ3_checkIndex_8e157 16 = .ok (.iload_n 0, 1) := by decide +kernel
theorem dJ3_checkIndex_8e157_17 : decode cJ3_checkIndex_8e157 17 = .ok (.ireturn, 1) := by decide +kernel
end
section
theorem dL_law_0 : decode cL_law 0 = .ok (.new 7, 3) := by decide +kernel
theorem dL_law_3 : decode cL_law 3 = .ok (.dup, 1) := by decide +kernel
theorem dL_law_4 : decode cL_law 4 = .ok (.invokespecial 9, 3) := by decide +kernel
theorem dL_law_7 : decode cL_law 7 = .ok (.astore_n 1, 1) := by decide +kernel
theorem dL_law_8 : decode cL_law 8 = .ok (.new 10, 3) := by decide +kernel
theorem dL_law_11 : decode cL_law 11 = .ok (.dup, 1) := by decide +kernel
theorem dL_law_12 : decode cL_law 12 = .ok (.invokespecial 12, 3) := by decide +kernel
theorem dL_law_15 : decode cL_law 15 = .ok (.astore_n 2, 1) := by decide +kernel
theorem dL_law_16 : decode cL_law 16 = .ok (.iconst 0, 1) := by decide +kernel
theorem dL_law_17 : decode cL_law 17 = .ok (.istore_n 3, 1) := by decide +kernel
theorem dL_law_18 : decode cL_law 18 = .ok (.iload_n 3, 1) := by decide +kernel
theorem dL_law_19 : decode cL_law 19 = .ok (.aload_n 0, 1) := by decide +kernel
theorem dL_law_20 : decode cL_law 20 = .ok (.arraylength, 1) := by decide +kernel
theorem dL_law_21 : decode cL_law 21 = .ok (.iconst 4, 1) := by decide +kernel
theorem dL_law_22 : decode cL_law 22 = .ok (.isub, 1) := by decide +kernel
theorem dL_law_23 : decode cL_law 23 = .ok (.if_icmp .gt 762, 3) := by decide +kernel
theorem dL_law_26 : decode cL_law 26 = .ok (.aload_n 0, 1) := by decide +kernel
theorem dL_law_27 : decode cL_law 27 = .ok (.iload_n 3, 1) := by decide +kernel
theorem dL_law_28 : decode cL_law 28 = .ok (.iaload, 1) := by decide +kernel
theorem dL_law_29 : decode cL_law 29 = .ok (.bipush 31, 2) := by decide +kernel
theorem dL_law_31 : decode cL_law 31 = .ok (.iand, 1) := by decide +kernel
theorem dL_law_32 : decode cL_law 32 = .ok (.tableswitch 747 0 22 #[108, 131, 144, 157, 200, 233, 276, 299, 312, 345, 388, 421, 454, 497, 540, 583, 606, 639, 652, 665, 678, 701, 724], 108) := by decide +kernel
theorem dL_law_140 : decode cL_law 140 = .ok (.aload_n 1, 1) := by decide +kernel
theorem dL_law_141 : decode cL_law 141 = .ok (.aload_n 0, 1) := by decide +kernel
theorem dL_law_142 : decode cL_law 142 = .ok (.iload_n 3, 1) := by decide +kernel
theorem dL_law_143 : decode cL_law 143 = .ok (.iconst 1, 1) := by decide +kernel
theorem dL_law_144 : decode cL_law 144 = .ok (.iadd, 1) := by decide +kernel
theorem dL_law_145 : decode cL_law 145 = .ok (.iaload, 1) := by decide +kernel
theorem dL_law_146 : decode cL_law 146 = .ok (.invokevirtual 13, 3) := by decide +kernel
theorem dL_law_149 : decode cL_law 149 = .ok (.aload_n 2, 1) := by decide +kernel
theorem dL_law_150 : decode cL_law 150 = .ok (.aload_n 0, 1) := by decide +kernel
theorem dL_law_151 : decode cL_law 151 = .ok (.iload_n 3, 1) := by decide +kernel
theorem dL_law_152 : decode cL_law 152 = .ok (.iconst 1, 1) := by decide +kernel
theorem dL_law_153 : decode cL_law 153 = .ok (.iadd, 1) := by decide +kernel
theorem dL_law_154 : decode cL_law 154 = .ok (.iaload, 1) := by decide +kernel
theorem dL_law_155 : decode cL_law 155 = .ok (.invokevirtual 17, 3) := by decide +kernel
theorem dL_law_158 : decode cL_law 158 = .ok (.if_icmp .eq 621, 3) := by decide +kernel
theorem dL_law_161 : decode cL_law 161 = .ok (.iconst 0, 1) := by decide +kernel
theorem dL_law_162 : decode cL_law 162 = .ok (.ireturn, 1) := by decide +kernel
theorem dL_law_163 : decode cL_law 163 = .ok (.aload_n 1, 1) := by decide +kernel
theorem dL_law_164 : decode cL_law 164 = .ok (.invokevirtual 18, 3) := by decide +kernel
theorem dL_law_167 : decode cL_law 167 = .ok (.aload_n 2, 1) := by decide +kernel
theorem dL_law_168 : decode cL_law 168 = .ok (.invokevirtual 22, 3) := by decide +kernel
theorem dL_law_171 : decode cL_law 171 = .ok (.if_icmp .eq 608, 3) := by decide +kernel
theorem dL_law_174 : decode cL_law 174 = .ok (.iconst 0, 1) := by decide +kernel
theorem dL_law_175 : decode cL_law 175 = .ok (.ireturn, 1) := by decide +kernel
theorem dL_law_176 : decode cL_law 176 = .ok (.aload_n 1, 1) := by decide +kernel
theorem dL_law_177 : decode cL_law 177 = .ok (.invokevirtual 23, 3) := by decide +kernel
theorem dL_law_180 : decode cL_law 180 = .ok (.aload_n 2, 1) := by decide +kernel
theorem dL_law_181 : decode cL_law 181 = .ok (.invokevirtual 26, 3) := by decide +kernel
theorem dL_law_184 : decode cL_law 184 = .ok (.if_icmp .eq 595, 3) := by decide +kernel
theorem dL_law_187 : decode cL_law 187 = .ok (.iconst 0, 1) := by decide +kernel
theorem dL_law_188 : decode cL_law 188 = .ok (.ireturn, 1) := by decide +kernel
theorem dL_law_189 : decode cL_law 189 = .ok (.aload_n 1, 1) := by decide +kernel
theorem dL_law_190 : decode cL_law 190 = .ok (.aload_n 0, 1) := by decide +kernel
theorem dL_law_191 : decode cL_law 191 = .ok (.iload_n 3, 1) := by decide +kernel
theorem dL_law_192 : decode cL_law 192 = .ok (.iconst 1, 1) := by decide +kernel
theorem dL_law_193 : decode cL_law 193 = .ok (.iadd, 1) := by decide +kernel
theorem dL_law_194 : decode cL_law 194 = .ok (.iaload, 1) := by decide +kernel
theorem dL_law_195 : decode cL_law 195 = .ok (.aload_n 0, 1) := by decide +kernel
theorem dL_law_196 : decode cL_law 196 = .ok (.iload_n 3, 1) := by decide +kernel
theorem dL_law_197 : decode cL_law 197 = .ok (.iconst 2, 1) := by decide +kernel
theorem dL_law_198 : decode cL_law 198 = .ok (.iadd, 1) := by decide +kernel
theorem dL_law_199 : decode cL_law 199 = .ok (.iaload, 1) := by decide +kernel
theorem dL_law_200 : decode cL_law 200 = .ok (.aload_n 0, 1) := by decide +kernel
theorem dL_law_201 : decode cL_law 201 = .ok (.iload_n 3, 1) := by decide +kernel
theorem dL_law_202 : decode cL_law 202 = .ok (.iconst 3, 1) := by decide +kernel
theorem dL_law_203 : decode cL_law 203 = .ok (.iadd, 1) := by decide +kernel
theorem dL_law_204 : decode cL_law 204 = .ok (.iaload, 1) := by decide +kernel
theorem dL_law_205 : decode cL_law 205 = .ok (.invokevirtual 27, 3) := by decide +kernel
theorem dL_law_208 : decode cL_law 208 = .ok (.aload_n 2, 1) := by decide +kernel
theorem dL_law_209 : decode cL_law 209 = .ok (.aload_n 0, 1) := by decide +kernel
theorem dL_law_210 : decode cL_law 210 = .ok (.iload_n 3, 1) := by decide +kernel
theorem dL_law_211 : decode cL_law 211 = .ok (.iconst 1, 1) := by decide +kernel
theorem dL_law_212 : decode cL_law 212 = .ok (.iadd, 1) := by decide +kernel
theorem dL_law_213 : decode cL_law 213 = .ok (.iaload, 1) := by decide +kernel
theorem dL_law_214 : decode cL_law 214 = .ok (.aload_n 0, 1) := by decide +kernel
theorem dL_law_215 : decode cL_law 215 = .ok (.iload_n 3, 1) := by decide +kernel
theorem dL_law_216 : decode cL_law 216 = .ok (.iconst 2, 1) := by decide +kernel
theorem dL_law_217 : decode cL_law 217 = .ok (.iadd, 1) := by decide +kernel
theorem dL_law_218 : decode cL_law 218 = .ok (.iaload, 1) := by decide +kernel
theorem dL_law_219 : decode cL_law 219 = .ok (.aload_n 0, 1) := by decide +kernel
theorem dL_law_220 : decode cL_law 220 = .ok (.iload_n 3, 1) := by decide +kernel
theorem dL_law_221 : decode cL_law 221 = .ok (.iconst 3, 1) := by decide +kernel
theorem dL_law_222 : decode cL_law 222 = .ok (.iadd, 1) := by decide +kernel
theorem dL_law_223 : decode cL_law 223 = .ok (.iaload, 1) := by decide +kernel
theorem dL_law_224 : decode cL_law 224 = .ok (.invokevirtual 31, 3) := by decide +kernel
theorem dL_law_227 : decode cL_law 227 = .ok (.if_icmp .eq 552, 3) := by decide +kernel
theorem dL_law_230 : decode cL_law 230 = .ok (.iconst 0, 1) := by decide +kernel
theorem dL_law_231 : decode cL_law 231 = .ok (.ireturn, 1) := by decide +kernel
theorem dL_law_232 : decode cL_law 232 = .ok (.aload_n 1, 1) := by decide +kernel
theorem dL_law_233 : decode cL_law 233 = .ok (.aload_n 0, 1) := by decide +kernel
theorem dL_law_234 : decode cL_law 234 = .ok (.iload_n 3, 1) := by decide +kernel
theorem dL_law_235 : decode cL_law 235 = .ok (.iconst 1, 1) := by decide +kernel
theorem dL_law_236 : decode cL_law 236 = .ok (.iadd, 1) := by decide +kernel
theorem dL_law_237 : decode cL_law 237 = .ok (.iaload, 1) := by decide +kernel
theorem dL_law_238 : decode cL_law 238 = .ok (.aload_n 0, 1) := by decide +kernel
theorem dL_law_239 : decode cL_law 239 = .ok (.iload_n 3, 1) := by decide +kernel
theorem dL_law_240 : decode cL_law 240 = .ok (.iconst 2, 1) := by decide +kernel
theorem dL_law_241 : decode cL_law 241 = .ok (.iadd, 1) := by decide +kernel
theorem dL_law_242 : decode cL_law 242 = .ok (.iaload, 1) := by decide +kernel
theorem dL_law_243 : decode cL_law 243 = .ok (.invokevirtual 32, 3) := by decide +kernel
theorem dL_law_246 : decode cL_law 246 = .ok (.aload_n 2, 1) := by decide +kernel
theorem dL_law_247 : decode cL_law 247 = .ok (.aload_n 0, 1) := by decide +kernel
theorem dL_law_248 : decode cL_law 248 = .ok (.iload_n 3, 1) := by decide +kernel
theorem dL_law_249 : decode cL_law 249 = .ok (.iconst 1, 1) := by decide +kernel
theorem dL_law_250 : decode cL_law 250 = .ok (.iadd, 1) := by decide +kernel
theorem dL_law_251 : decode cL_law 251 = .ok (.iaload, 1) := by decide +kernel
theorem dL_law_252 : decode cL_law 252 = .ok (.aload_n 0, 1) := by decide +kernel
theorem dL_law_253 : decode cL_law 253 = .ok (.iload_n 3, 1) := by decide +kernel
theorem dL_law_254 : decode cL_law 254 = .ok (.iconst 2, 1) := by decide +kernel
theorem dL_law_255 : decode cL_law 255 = .ok (.iadd, 1) := by decide +kernel
theorem dL_law_256 : decode cL_law 256 = .ok (.iaload, 1) := by decide +kernel
theorem dL_law_257 : decode cL_law 257 = .ok (.invokevirtual 36, 3) := by decide +kernel
theorem dL_law_260 : decode cL_law 260 = .ok (.if_icmp .eq 519, 3) := by decide +kernel
theorem dL_law_263 : decode cL_law 263 = .ok (.iconst 0, 1) := by decide +kernel
theorem dL_law_264 : decode cL_law 264 = .ok (.ireturn, 1) := by decide +kernel
theorem dL_law_265 : decode cL_law 265 = .ok (.aload_n 1, 1) := by decide +kernel
theorem dL_law_266 : decode cL_law 266 = .ok (.aload_n 0, 1) := by decide +kernel
theorem dL_law_267 : decode cL_law 267 = .ok (.iload_n 3, 1) := by decide +kernel
theorem dL_law_268 : decode cL_law 268 = .ok (.iconst 1, 1) := by decide +kernel
theorem dL_law_269 : decode cL_law 269 = .ok (.iadd, 1) := by decide +kernel
theorem dL_law_270 : decode cL_law 270 = .ok (.iaload, 1) := by decide +kernel
theorem dL_law_271 : decode cL_law 271 = .ok (.aload_n 0, 1) := by decide +kernel
theorem dL_law_272 : decode cL_law 272 = .ok (.iload_n 3, 1) := by decide +kernel
theorem dL_law_273 : decode cL_law 273 = .ok (.iconst 2, 1) := by decide +kernel
theorem dL_law_274 : decode cL_law 274 = .ok (.iadd, 1) := by decide +kernel
theorem dL_law_275 : decode cL_law 275 = .ok (.iaload, 1) := by decide +kernel
theorem dL_law_276 : decode cL_law 276 = .ok (.aload_n 0, 1) := by decide +kernel
theorem dL_law_277 : decode cL_law 277 = .ok (.iload_n 3, 1) := by decide +kernel
theorem dL_law_278 : decode cL_law 278 = .ok (.iconst 3, 1) := by decide +kernel
theorem dL_law_279 : decode cL_law 279 = .ok (.iadd, 1) := by decide +kernel
theorem dL_law_280 : decode cL_law 280 = .ok (.iaload, 1) := by decide +kernel
theorem dL_law_281 : decode cL_law 281 = .ok (.invokevirtual 37, 3) := by decide +kernel
theorem dL_law_284 : decode cL_law 284 = .ok (.aload_n 2, 1) := by decide +kernel
theorem dL_law_285 : decode cL_law 285 = .ok (.aload_n 0, 1) := by decide +kernel
theorem dL_law_286 : decode cL_law 286 = .ok (.iload_n 3, 1) := by decide +kernel
theorem dL_law_287 : decode cL_law 287 = .ok (.iconst 1, 1) := by decide +kernel
theorem dL_law_288 : decode cL_law 288 = .ok (.iadd, 1) := by decide +kernel
theorem dL_law_289 : decode cL_law 289 = .ok (.iaload, 1) := by decide +kernel
theorem dL_law_290 : decode cL_law 290 = .ok (.aload_n 0, 1) := by decide +kernel
theorem dL_law_291 : decode cL_law 291 = .ok (.iload_n 3, 1) := by decide +kernel
theorem dL_law_292 : decode cL_law 292 = .ok (.iconst 2, 1) := by decide +kernel
theorem dL_law_293 : decode cL_law 293 = .ok (.iadd, 1) := by decide +kernel
theorem dL_law_294 : decode cL_law 294 = .ok (.iaload, 1) := by decide +kernel
theorem dL_law_295 : decode cL_law 295 = .ok (.aload_n 0, 1) := by decide +kernel
theorem dL_law_296 : decode cL_law 296 = .ok (.iload_n 3, 1) := by decide +kernel
theorem dL_law_297 : decode cL_law 297 = .ok (.iconst 3, 1) := by decide +kernel
theorem dL_law_298 : decode cL_law 298 = .ok (.iadd, 1) := by decide +kernel
theorem dL_law_299 : decode cL_law 299 = .ok (.iaload, 1) := by decide +kernel
theorem dL_law_300 : decode cL_law 300 = .ok (.invokevirtual 40, 3) := by decide +kernel
theorem dL_law_303 : decode cL_law 303 = .ok (.if_icmp .eq 476, 3) := by decide +kernel
theorem dL_law_306 : decode cL_law 306 = .ok (.iconst 0, 1) := by decide +kernel
theorem dL_law_307 : decode cL_law 307 = .ok (.ireturn, 1) := by decide +kernel
theorem dL_law_308 : decode cL_law 308 = .ok (.aload_n 1, 1) := by decide +kernel
theorem dL_law_309 : decode cL_law 309 = .ok (.aload_n 0, 1) := by decide +kernel
theorem dL_law_310 : decode cL_law 310 = .ok (.iload_n 3, 1) := by decide +kernel
theorem dL_law_311 : decode cL_law 311 = .ok (.iconst 1, 1) := by decide +kernel
theorem dL_law_312 : decode cL_law 312 = .ok (.iadd, 1) := by decide +kernel
theorem dL_law_313 : decode cL_law 313 = .ok (.iaload, 1) := by decide +kernel
theorem dL_law_314 : decode cL_law 314 = .ok (.invokevirtual 41, 3) := by decide +kernel
theorem dL_law_317 : decode cL_law 317 = .ok (.aload_n 2, 1) := by decide +kernel
theorem dL_law_318 : decode cL_law 318 = .ok (.aload_n 0, 1) := by decide +kernel
theorem dL_law_319 : decode cL_law 319 = .ok (.iload_n 3, 1) := by decide +kernel
theorem dL_law_320 : decode cL_law 320 = .ok (.iconst 1, 1) := by decide +kernel
theorem dL_law_321 : decode cL_law 321 = .ok (.iadd, 1) := by decide +kernel
theorem dL_law_322 : decode cL_law 322 = .ok (.iaload, 1) := by decide +kernel
theorem dL_law_323 : decode cL_law 323 = .ok (.invokevirtual 44, 3) := by decide +kernel
theorem dL_law_326 : decode cL_law 326 = .ok (.if_icmp .eq 453, 3) := by decide +kernel
theorem dL_law_329 : decode cL_law 329 = .ok (.iconst 0, 1) := by decide +kernel
theorem dL_law_330 : decode cL_law 330 = .ok (.ireturn, 1) := by decide +kernel
theorem dL_law_331 : decode cL_law 331 = .ok (.aload_n 1, 1) := by decide +kernel
theorem dL_law_332 : decode cL_law 332 = .ok (.invokevirtual 45, 3) := by decide +kernel
theorem dL_law_335 : decode cL_law 335 = .ok (.aload_n 2, 1) := by decide +kernel
theorem dL_law_336 : decode cL_law 336 = .ok (.invokevirtual 48, 3) := by decide +kernel
theorem dL_law_339 : decode cL_law 339 = .ok (.if_icmp .eq 440, 3) := by decide +kernel
theorem dL_law_342 : decode cL_law 342 = .ok (.iconst 0, 1) := by decide +kernel
theorem dL_law_343 : decode cL_law 343 = .ok (.ireturn, 1) := by decide +kernel
theorem dL_law_344 : decode cL_law 344 = .ok (.aload_n 1, 1) := by decide +kernel
theorem dL_law_345 : decode cL_law 345 = .ok (.aload_n 0, 1) := by decide +kernel
theorem dL_law_346 : decode cL_law 346 = .ok (.iload_n 3, 1) := by decide +kernel
theorem dL_law_347 : decode cL_law 347 = .ok (.iconst 1, 1) := by decide +kernel
theorem dL_law_348 : decode cL_law 348 = .ok (.iadd, 1) := by decide +kernel
theorem dL_law_349 : decode cL_law 349 = .ok (.iaload, 1) := by decide +kernel
theorem dL_law_350 : decode cL_law 350 = .ok (.aload_n 0, 1) := by decide +kernel
theorem dL_law_351 : decode cL_law 351 = .ok (.iload_n 3, 1) := by decide +kernel
theorem dL_law_352 : decode cL_law 352 = .ok (.iconst 2, 1) := by decide +kernel
theorem dL_law_353 : decode cL_law 353 = .ok (.iadd, 1) := by decide +kernel
theorem dL_law_354 : decode cL_law 354 = .ok (.iaload, 1) := by decide +kernel
theorem dL_law_355 : decode cL_law 355 = .ok (.invokevirtual 49, 3) := by decide +kernel
theorem dL_law_358 : decode cL_law 358 = .ok (.aload_n 2, 1) := by decide +kernel
theorem dL_law_359 : decode cL_law 359 = .ok (.aload_n 0, 1) := by decide +kernel
theorem dL_law_360 : decode cL_law 360 = .ok (.iload_n 3, 1) := by decide +kernel
theorem dL_law_361 : decode cL_law 361 = .ok (.iconst 1, 1) := by decide +kernel
theorem dL_law_362 : decode cL_law 362 = .ok (.iadd, 1) := by decide +kernel
theorem dL_law_363 : decode cL_law 363 = .ok (.iaload, 1) := by decide +kernel
theorem dL_law_364 : decode cL_law 364 = .ok (.aload_n 0, 1) := by decide +kernel
theorem dL_law_365 : decode cL_law 365 = .ok (.iload_n 3, 1) := by decide +kernel
theorem dL_law_366 : decode cL_law 366 = .ok (.iconst 2, 1) := by decide +kernel
theorem dL_law_367 : decode cL_law 367 = .ok (.iadd, 1) := by decide +kernel
theorem dL_law_368 : decode cL_law 368 = .ok (.iaload, 1) := by decide +kernel
theorem dL_law_369 : decode cL_law 369 = .ok (.invokevirtual 52, 3) := by decide +kernel
theorem dL_law_372 : decode cL_law 372 = .ok (.if_icmp .eq 407, 3) := by decide +kernel
theorem dL_law_375 : decode cL_law 375 = .ok (.iconst 0, 1) := by decide +kernel
theorem dL_law_376 : decode cL_law 376 = .ok (.ireturn, 1) := by decide +kernel
theorem dL_law_377 : decode cL_law 377 = .ok (.aload_n 1, 1) := by decide +kernel
theorem dL_law_378 : decode cL_law 378 = .ok (.aload_n 0, 1) := by decide +kernel
theorem dL_law_379 : decode cL_law 379 = .ok (.iload_n 3, 1) := by decide +kernel
theorem dL_law_380 : decode cL_law 380 = .ok (.iconst 1, 1) := by decide +kernel
theorem dL_law_381 : decode cL_law 381 = .ok (.iadd, 1) := by decide +kernel
theorem dL_law_382 : decode cL_law 382 = .ok (.iaload, 1) := by decide +kernel
theorem dL_law_383 : decode cL_law 383 = .ok (.aload_n 0, 1) := by decide +kernel
theorem dL_law_384 : decode cL_law 384 = .ok (.iload_n 3, 1) := by decide +kernel
theorem dL_law_385 : decode cL_law 385 = .ok (.iconst 2, 1) := by decide +kernel
theorem dL_law_386 : decode cL_law 386 = .ok (.iadd, 1) := by decide +kernel
theorem dL_law_387 : decode cL_law 387 = .ok (.iaload, 1) := by decide +kernel
theorem dL_law_388 : decode cL_law 388 = .ok (.aload_n 0, 1) := by decide +kernel
theorem dL_law_389 : decode cL_law 389 = .ok (.iload_n 3, 1) := by decide +kernel
theorem dL_law_390 : decode cL_law 390 = .ok (.iconst 3, 1) := by decide +kernel
theorem dL_law_391 : decode cL_law 391 = .ok (.iadd, 1) := by decide +kernel
theorem dL_law_392 : decode cL_law 392 = .ok (.iaload, 1) := by decide +kernel
theorem dL_law_393 : decode cL_law 393 = .ok (.invokevirtual 53, 3) := by decide +kernel
theorem dL_law_396 : decode cL_law 396 = .ok (.aload_n 2, 1) := by decide +kernel
theorem dL_law_397 : decode cL_law 397 = .ok (.aload_n 0, 1) := by decide +kernel
theorem dL_law_398 : decode cL_law 398 = .ok (.iload_n 3, 1) := by decide +kernel
theorem dL_law_399 : decode cL_law 399 = .ok (.iconst 1, 1) := by decide +kernel
theorem dL_law_400 : decode cL_law 400 = .ok (.iadd, 1) := by decide +kernel
theorem dL_law_401 : decode cL_law 401 = .ok (.iaload, 1) := by decide +kernel
theorem dL_law_402 : decode cL_law 402 = .ok (.aload_n 0, 1) := by decide +kernel
theorem dL_law_403 : decode cL_law 403 = .ok (.iload_n 3, 1) := by decide +kernel
theorem dL_law_404 : decode cL_law 404 = .ok (.iconst 2, 1) := by decide +kernel
theorem dL_law_405 : decode cL_law 405 = .ok (.iadd, 1) := by decide +kernel
theorem dL_law_406 : decode cL_law 406 = .ok (.iaload, 1) := by decide +kernel
theorem dL_law_407 : decode cL_law 407 = .ok (.aload_n 0, 1) := by decide +kernel
theorem dL_law_408 : decode cL_law 408 = .ok (.iload_n 3, 1) := by decide +kernel
theorem dL_law_409 : decode cL_law 409 = .ok (.iconst 3, 1) := by decide +kernel
theorem dL_law_410 : decode cL_law 410 = .ok (.iadd, 1) := by decide +kernel
theorem dL_law_411 : decode cL_law 411 = .ok (.iaload, 1) := by decide +kernel
theorem dL_law_412 : decode cL_law 412 = .ok (.invokevirtual 56, 3) := by decide +kernel
theorem dL_law_415 : decode cL_law 415 = .ok (.if_icmp .eq 364, 3) := by decide +kernel
theorem dL_law_418 : decode cL_law 418 = .ok (.iconst 0, 1) := by decide +kernel
theorem dL_law_419 : decode cL_law 419 = .ok (.ireturn, 1) := by decide +kernel
theorem dL_law_420 : decode cL_law 420 = .ok (.aload_n 1, 1) := by decide +kernel
theorem dL_law_421 : decode cL_law 421 = .ok (.aload_n 0, 1) := by decide +kernel
theorem dL_law_422 : decode cL_law 422 = .ok (.iload_n 3, 1) := by decide +kernel
theorem dL_law_423 : decode cL_law 423 = .ok (.iconst 1, 1) := by decide +kernel
theorem dL_law_424 : decode cL_law 424 = .ok (.iadd, 1) := by decide +kernel
theorem dL_law_425 : decode cL_law 425 = .ok (.iaload, 1) := by decide +kernel
theorem dL_law_426 : decode cL_law 426 = .ok (.aload_n 0, 1) := by decide +kernel
theorem dL_law_427 : decode cL_law 427 = .ok (.iload_n 3, 1) := by decide +kernel
theorem dL_law_428 : decode cL_law 428 = .ok (.iconst 2, 1) := by decide +kernel
theorem dL_law_429 : decode cL_law 429 = .ok (.iadd, 1) := by decide +kernel
theorem dL_law_430 : decode cL_law 430 = .ok (.iaload, 1) := by decide +kernel
theorem dL_law_431 : decode cL_law 431 = .ok (.invokevirtual 57, 3) := by decide +kernel
theorem dL_law_434 : decode cL_law 434 = .ok (.aload_n 2, 1) := by decide +kernel
theorem dL_law_435 : decode cL_law 435 = .ok (.aload_n 0, 1) := by decide +kernel
theorem dL_law_436 : decode cL_law 436 = .ok (.iload_n 3, 1) := by decide +kernel
theorem dL_law_437 : decode cL_law 437 = .ok (.iconst 1, 1) := by decide +kernel
theorem dL_law_438 : decode cL_law 438 = .ok (.iadd, 1) := by decide +kernel
theorem dL_law_439 : decode cL_law 439 = .ok (.iaload, 1) := by decide +kernel
theorem dL_law_440 : decode cL_law 440 = .ok (.aload_n 0, 1) := by decide +kernel
theorem dL_law_441 : decode cL_law 441 = .ok (.iload_n 3, 1) := by decide +kernel
theorem dL_law_442 : decode cL_law 442 = .ok (.iconst 2, 1) := by decide +kernel
theorem dL_law_443 : decode cL_law 443 = .ok (.iadd, 1) := by decide +kernel
theorem dL_law_444 : decode cL_law 444 = .ok (.iaload, 1) := by decide +kernel
theorem dL_law_445 : decode cL_law 445 = .ok (.invokevirtual 60, 3) := by decide +kernel
theorem dL_law_448 : decode cL_law 448 = .ok (.if_icmp .eq 331, 3) := by decide +kernel
theorem dL_law_451 : decode cL_law 451 = .ok (.iconst 0, 1) := by decide +kernel
theorem dL_law_452 : decode cL_law 452 = .ok (.ireturn, 1) := by decide +kernel
theorem dL_law_453 : decode cL_law 453 = .ok (.aload_n 1, 1) := by decide +kernel
theorem dL_law_454 : decode cL_law 454 = .ok (.aload_n 0, 1) := by decide +kernel
theorem dL_law_455 : decode cL_law 455 = .ok (.iload_n 3, 1) := by decide +kernel
theorem dL_law_456 : decode cL_law 456 = .ok (.iconst 1, 1) := by decide +kernel
theorem dL_law_457 : decode cL_law 457 = .ok (.iadd, 1) := by decide +kernel
theorem dL_law_458 : decode cL_law 458 = .ok (.iaload, 1) := by decide +kernel
theorem dL_law_459 : decode cL_law 459 = .ok (.aload_n 0, 1) := by decide +kernel
theorem dL_law_460 : decode cL_law 460 = .ok (.iload_n 3, 1) := by decide +kernel
theorem dL_law_461 : decode cL_law 461 = .ok (.iconst 2, 1) := by decide +kernel
theorem dL_law_462 : decode cL_law 462 = .ok (.iadd, 1) := by decide +kernel
theorem dL_law_463 : decode cL_law 463 = .ok (.iaload, 1) := by decide +kernel
theorem dL_law_464 : decode cL_law 464 = .ok (.invokevirtual 61, 3) := by decide +kernel
theorem dL_law_467 : decode cL_law 467 = .ok (.aload_n 2, 1) := by decide +kernel
theorem dL_law_468 : decode cL_law 468 = .ok (.aload_n 0, 1) := by decide +kernel
theorem dL_law_469 : decode cL_law 469 = .ok (.iload_n 3, 1) := by decide +kernel
theorem dL_law_470 : decode cL_law 470 = .ok (.iconst 1, 1) := by decide +kernel
theorem dL_law_471 : decode cL_law 471 = .ok (.iadd, 1) := by decide +kernel
theorem dL_law_472 : decode cL_law 472 = .ok (.iaload, 1) := by decide +kernel
theorem dL_law_473 : decode cL_law 473 = .ok (.aload_n 0, 1) := by decide +kernel
theorem dL_law_474 : decode cL_law 474 = .ok (.iload_n 3, 1) := by decide +kernel
theorem dL_law_475 : decode cL_law 475 = .ok (.iconst 2, 1) := by decide +kernel
theorem dL_law_476 : decode cL_law 476 = .ok (.iadd, 1) := by decide +kernel
theorem dL_law_477 : decode cL_law 477 = .ok (.iaload, 1) := by decide +kernel
theorem dL_law_478 : decode cL_law 478 = .ok (.invokevirtual 64, 3) := by decide +kernel
theorem dL_law_481 : decode cL_law 481 = .ok (.if_icmp .eq 298, 3) := by decide +kernel
theorem dL_law_484 : decode cL_law 484 = .ok (.iconst 0, 1) := by decide +kernel
theorem dL_law_485 : decode cL_law 485 = .ok (.ireturn, 1) := by decide +kernel
theorem dL_law_486 : decode cL_law 486 = .ok (.aload_n 1, 1) := by decide +kernel
theorem dL_law_487 : decode cL_law 487 = .ok (.aload_n 0, 1) := by decide +kernel
theorem dL_law_488 : decode cL_law 488 = .ok (.iload_n 3, 1) := by decide +kernel
theorem dL_law_489 : decode cL_law 489 = .ok (.iconst 1, 1) := by decide +kernel
theorem dL_law_490 : decode cL_law 490 = .ok (.iadd, 1) := by decide +kernel
theorem dL_law_491 : decode cL_law 491 = .ok (.iaload, 1) := by decide +kernel
theorem dL_law_492 : decode cL_law 492 = .ok (.aload_n 0, 1) := by decide +kernel
theorem dL_law_493 : decode cL_law 493 = .ok (.iload_n 3, 1) := by decide +kernel
theorem dL_law_494 : decode cL_law 494 = .ok (.iconst 2, 1) := by decide +kernel
theorem dL_law_495 : decode cL_law 495 = .ok (.iadd, 1) := by decide +kernel
theorem dL_law_496 : decode cL_law 496 = .ok (.iaload, 1) := by decide +kernel
theorem dL_law_497 : decode cL_law 497 = .ok (.aload_n 0, 1) := by decide +kernel
theorem dL_law_498 : decode cL_law 498 = .ok (.iload_n 3, 1) := by decide +kernel
theorem dL_law_499 : decode cL_law 499 = .ok (.iconst 3, 1) := by decide +kernel
theorem dL_law_500 : decode cL_law 500 = .ok (.iadd, 1) := by decide +kernel
theorem dL_law_501 : decode cL_law 501 = .ok (.iaload, 1) := by decide +kernel
theorem dL_law_502 : decode cL_law 502 = .ok (.invokevirtual 65, 3) := by decide +kernel
theorem dL_law_505 : decode cL_law 505 = .ok (.aload_n 2, 1) := by decide +kernel
theorem dL_law_506 : decode cL_law 506 = .ok (.aload_n 0, 1) := by decide +kernel
theorem dL_law_507 : decode cL_law 507 = .ok (.iload_n 3, 1) := by decide +kernel
theorem dL_law_508 : decode cL_law 508 = .ok (.iconst 1, 1) := by decide +kernel
theorem dL_law_509 : decode cL_law 509 = .ok (.iadd, 1) := by decide +kernel
theorem dL_law_510 : decode cL_law 510 = .ok (.iaload, 1) := by decide +kernel
theorem dL_law_511 : decode cL_law 511 = .ok (.aload_n 0, 1) := by decide +kernel
theorem dL_law_512 : decode cL_law 512 = .ok (.iload_n 3, 1) := by decide +kernel
theorem dL_law_513 : decode cL_law 513 = .ok (.iconst 2, 1) := by decide +kernel
theorem dL_law_514 : decode cL_law 514 = .ok (.iadd, 1) := by decide +kernel
theorem dL_law_515 : decode cL_law 515 = .ok (.iaload, 1) := by decide +kernel
theorem dL_law_516 : decode cL_law 516 = .ok (.aload_n 0, 1) := by decide +kernel
theorem dL_law_517 : decode cL_law 517 = .ok (.iload_n 3, 1) := by decide +kernel
theorem dL_law_518 : decode cL_law 518 = .ok (.iconst 3, 1) := by decide +kernel
theorem dL_law_519 : decode cL_law 519 = .ok (.iadd, 1) := by decide +kernel
theorem dL_law_520 : decode cL_law 520 = .ok (.iaload, 1) := by decide +kernel
theorem dL_law_521 : decode cL_law 521 = .ok (.invokevirtual 68, 3) := by decide +kernel
theorem dL_law_524 : decode cL_law 524 = .ok (.if_icmp .eq 255, 3) := by decide +kernel
theorem dL_law_527 : decode cL_law 527 = .ok (.iconst 0, 1) := by decide +kernel
theorem dL_law_528 : decode cL_law 528 = .ok (.ireturn, 1) := by decide +kernel
theorem dL_law_529 : decode cL_law 529 = .ok (.aload_n 1, 1) := by decide +kernel
theorem dL_law_530 : decode cL_law 530 = .ok (.aload_n 0, 1) := by decide +kernel
theorem dL_law_531 : decode cL_law 531 = .ok (.iload_n 3, 1) := by decide +kernel
theorem dL_law_532 : decode cL_law 532 = .ok (.iconst 1, 1) := by decide +kernel
theorem dL_law_533 : decode cL_law 533 = .ok (.iadd, 1) := by decide +kernel
theorem dL_law_534 : decode cL_law 534 = .ok (.iaload, 1) := by decide +kernel
theorem dL_law_535 : decode cL_law 535 = .ok (.aload_n 0, 1) := by decide +kernel
theorem dL_law_536 : decode cL_law 536 = .ok (.iload_n 3, 1) := by decide +kernel
theorem dL_law_537 : decode cL_law 537 = .ok (.iconst 2, 1) := by decide +kernel
theorem dL_law_538 : decode cL_law 538 = .ok (.iadd, 1) := by decide +kernel
theorem dL_law_539 : decode cL_law 539 = .ok (.iaload, 1) := by decide +kernel
theorem dL_law_540 : decode cL_law 540 = .ok (.aload_n 0, 1) := by decide +kernel
theorem dL_law_541 : decode cL_law 541 = .ok (.iload_n 3, 1) := by decide +kernel
theorem dL_law_542 : decode cL_law 542 = .ok (.iconst 3, 1) := by decide +kernel
theorem dL_law_543 : decode cL_law 543 = .ok (.iadd, 1) := by decide +kernel
theorem dL_law_544 : decode cL_law 544 = .ok (.iaload, 1) := by decide +kernel
theorem dL_law_545 : decode cL_law 545 = .ok (.invokevirtual 69, 3) := by decide +kernel
theorem dL_law_548 : decode cL_law 548 = .ok (.aload_n 2, 1) := by decide +kernel
theorem dL_law_549 : decode cL_law 549 = .ok (.aload_n 0, 1) := by decide +kernel
theorem dL_law_550 : decode cL_law 550 = .ok (.iload_n 3, 1) := by decide +kernel
theorem dL_law_551 : decode cL_law 551 = .ok (.iconst 1, 1) := by decide +kernel
theorem dL_law_552 : decode cL_law 552 = .ok (.iadd, 1) := by decide +kernel
theorem dL_law_553 : decode cL_law 553 = .ok (.iaload, 1) := by decide +kernel
theorem dL_law_554 : decode cL_law 554 = .ok (.aload_n 0, 1) := by decide +kernel
theorem dL_law_555 : decode cL_law 555 = .ok (.iload_n 3, 1) := by decide +kernel
theorem dL_law_556 : decode cL_law 556 = .ok (.iconst 2, 1) := by decide +kernel
theorem dL_law_557 : decode cL_law 557 = .ok (.iadd, 1) := by decide +kernel
theorem dL_law_558 : decode cL_law 558 = .ok (.iaload, 1) := by decide +kernel
theorem dL_law_559 : decode cL_law 559 = .ok (.aload_n 0, 1) := by decide +kernel
theorem dL_law_560 : decode cL_law 560 = .ok (.iload_n 3, 1) := by decide +kernel
theorem dL_law_561 : decode cL_law 561 = .ok (.iconst 3, 1) := by decide +kernel
theorem dL_law_562 : decode cL_law 562 = .ok (.iadd, 1) := by decide +kernel
theorem dL_law_563 : decode cL_law 563 = .ok (.iaload, 1) := by decide +kernel
theorem dL_law_564 : decode cL_law 564 = .ok (.invokevirtual 72, 3) := by decide +kernel
theorem dL_law_567 : decode cL_law 567 = .ok (.if_icmp .eq 212, 3) := by decide +kernel
theorem dL_law_570 : decode cL_law 570 = .ok (.iconst 0, 1) := by decide +kernel
theorem dL_law_571 : decode cL_law 571 = .ok (.ireturn, 1) := by decide +kernel
theorem dL_law_572 : decode cL_law 572 = .ok (.aload_n 1, 1) := by decide +kernel
theorem dL_law_573 : decode cL_law 573 = .ok (.aload_n 0, 1) := by decide +kernel
theorem dL_law_574 : decode cL_law 574 = .ok (.iload_n 3, 1) := by decide +kernel
theorem dL_law_575 : decode cL_law 575 = .ok (.iconst 1, 1) := by decide +kernel
theorem dL_law_576 : decode cL_law 576 = .ok (.iadd, 1) := by decide +kernel
theorem dL_law_577 : decode cL_law 577 = .ok (.iaload, 1) := by decide +kernel
theorem dL_law_578 : decode cL_law 578 = .ok (.aload_n 0, 1) := by decide +kernel
theorem dL_law_579 : decode cL_law 579 = .ok (.iload_n 3, 1) := by decide +kernel
theorem dL_law_580 : decode cL_law 580 = .ok (.iconst 2, 1) := by decide +kernel
theorem dL_law_581 : decode cL_law 581 = .ok (.iadd, 1) := by decide +kernel
theorem dL_law_582 : decode cL_law 582 = .ok (.iaload, 1) := by decide +kernel
theorem dL_law_583 : decode cL_law 583 = .ok (.aload_n 0, 1) := by decide +kernel
theorem dL_law_584 : decode cL_law 584 = .ok (.iload_n 3, 1) := by decide +kernel
theorem dL_law_585 : decode cL_law 585 = .ok (.iconst 3, 1) := by decide +kernel
theorem dL_law_586 : decode cL_law 586 = .ok (.iadd, 1) := by decide +kernel
theorem dL_law_587 : decode cL_law 587 = .ok (.iaload, 1) := by decide +kernel
theorem dL_law_588 : decode cL_law 588 = .ok (.invokevirtual 73, 3) := by decide +kernel
theorem dL_law_591 : decode cL_law 591 = .ok (.aload_n 2, 1) := by decide +kernel
theorem dL_law_592 : decode cL_law 592 = .ok (.aload_n 0, 1) := by decide +kernel
theorem dL_law_593 : decode cL_law 593 = .ok (.iload_n 3, 1) := by decide +kernel
theorem dL_law_594 : decode cL_law 594 = .ok (.iconst 1, 1) := by decide +kernel
theorem dL_law_595 : decode cL_law 595 = .ok (.iadd, 1) := by decide +kernel
theorem dL_law_596 : decode cL_law 596 = .ok (.iaload, 1) := by decide +kernel
theorem dL_law_597 : decode cL_law 597 = .ok (.aload_n 0, 1) := by decide +kernel
theorem dL_law_598 : decode cL_law 598 = .ok (.iload_n 3, 1) := by decide +kernel
theorem dL_law_599 : decode cL_law 599 = .ok (.iconst 2, 1) := by decide +kernel
theorem dL_law_600 : decode cL_law 600 = .ok (.iadd, 1) := by decide +kernel
theorem dL_law_601 : decode cL_law 601 = .ok (.iaload, 1) := by decide +kernel
theorem dL_law_602 : decode cL_law 602 = .ok (.aload_n 0, 1) := by decide +kernel
theorem dL_law_603 : decode cL_law 603 = .ok (.iload_n 3, 1) := by decide +kernel
theorem dL_law_604 : decode cL_law 604 = .ok (.iconst 3, 1) := by decide +kernel
theorem dL_law_605 : decode cL_law 605 = .ok (.iadd, 1) := by decide +kernel
theorem dL_law_606 : decode cL_law 606 = .ok (.iaload, 1) := by decide +kernel
theorem dL_law_607 : decode cL_law 607 = .ok (.invokevirtual 76, 3) := by decide +kernel
theorem dL_law_610 : decode cL_law 610 = .ok (.if_icmp .eq 169, 3) := by decide +kernel
theorem dL_law_613 : decode cL_law 613 = .ok (.iconst 0, 1) := by decide +kernel
theorem dL_law_614 : decode cL_law 614 = .ok (.ireturn, 1) := by decide +kernel
theorem dL_law_615 : decode cL_law 615 = .ok (.aload_n 1, 1) := by decide +kernel
theorem dL_law_616 : decode cL_law 616 = .ok (.aload_n 0, 1) := by decide +kernel
theorem dL_law_617 : decode cL_law 617 = .ok (.iload_n 3, 1) := by decide +kernel
theorem dL_law_618 : decode cL_law 618 = .ok (.iconst 1, 1) := by decide +kernel
theorem dL_law_619 : decode cL_law 619 = .ok (.iadd, 1) := by decide +kernel
theorem dL_law_620 : decode cL_law 620 = .ok (.iaload, 1) := by decide +kernel
theorem dL_law_621 : decode cL_law 621 = .ok (.invokevirtual 77, 3) := by decide +kernel
theorem dL_law_624 : decode cL_law 624 = .ok (.aload_n 2, 1) := by decide +kernel
theorem dL_law_625 : decode cL_law 625 = .ok (.aload_n 0, 1) := by decide +kernel
theorem dL_law_626 : decode cL_law 626 = .ok (.iload_n 3, 1) := by decide +kernel
theorem dL_law_627 : decode cL_law 627 = .ok (.iconst 1, 1) := by decide +kernel
theorem dL_law_628 : decode cL_law 628 = .ok (.iadd, 1) := by decide +kernel
theorem dL_law_629 : decode cL_law 629 = .ok (.iaload, 1) := by decide +kernel
theorem dL_law_630 : decode cL_law 630 = .ok (.invokevirtual 80, 3) := by decide +kernel
theorem dL_law_633 : decode cL_law 633 = .ok (.if_icmp .eq 146, 3) := by decide +kernel
theorem dL_law_636 : decode cL_law 636 = .ok (.iconst 0, 1) := by decide +kernel
theorem dL_law_637 : decode cL_law 637 = .ok (.ireturn, 1) := by decide +kernel
theorem dL_law_638 : decode cL_law 638 = .ok (.aload_n 1, 1) := by decide +kernel
theorem dL_law_639 : decode cL_law 639 = .ok (.aload_n 0, 1) := by decide +kernel
theorem dL_law_640 : decode cL_law 640 = .ok (.iload_n 3, 1) := by decide +kernel
theorem dL_law_641 : decode cL_law 641 = .ok (.iconst 1, 1) := by decide +kernel
theorem dL_law_642 : decode cL_law 642 = .ok (.iadd, 1) := by decide +kernel
theorem dL_law_643 : decode cL_law 643 = .ok (.iaload, 1) := by decide +kernel
theorem dL_law_644 : decode cL_law 644 = .ok (.aload_n 0, 1) := by decide +kernel
theorem dL_law_645 : decode cL_law 645 = .ok (.iload_n 3, 1) := by decide +kernel
theorem dL_law_646 : decode cL_law 646 = .ok (.iconst 2, 1) := by decide +kernel
theorem dL_law_647 : decode cL_law 647 = .ok (.iadd, 1) := by decide +kernel
theorem dL_law_648 : decode cL_law 648 = .ok (.iaload, 1) := by decide +kernel
theorem dL_law_649 : decode cL_law 649 = .ok (.invokevirtual 81, 3) := by decide +kernel
theorem dL_law_652 : decode cL_law 652 = .ok (.aload_n 2, 1) := by decide +kernel
theorem dL_law_653 : decode cL_law 653 = .ok (.aload_n 0, 1) := by decide +kernel
theorem dL_law_654 : decode cL_law 654 = .ok (.iload_n 3, 1) := by decide +kernel
theorem dL_law_655 : decode cL_law 655 = .ok (.iconst 1, 1) := by decide +kernel
theorem dL_law_656 : decode cL_law 656 = .ok (.iadd, 1) := by decide +kernel
theorem dL_law_657 : decode cL_law 657 = .ok (.iaload, 1) := by decide +kernel
theorem dL_law_658 : decode cL_law 658 = .ok (.aload_n 0, 1) := by decide +kernel
theorem dL_law_659 : decode cL_law 659 = .ok (.iload_n 3, 1) := by decide +kernel
theorem dL_law_660 : decode cL_law 660 = .ok (.iconst 2, 1) := by decide +kernel
theorem dL_law_661 : decode cL_law 661 = .ok (.iadd, 1) := by decide +kernel
theorem dL_law_662 : decode cL_law 662 = .ok (.iaload, 1) := by decide +kernel
theorem dL_law_663 : decode cL_law 663 = .ok (.invokevirtual 84, 3) := by decide +kernel
theorem dL_law_666 : decode cL_law 666 = .ok (.if_icmp .eq 113, 3) := by decide +kernel
theorem dL_law_669 : decode cL_law 669 = .ok (.iconst 0, 1) := by decide +kernel
theorem dL_law_670 : decode cL_law 670 = .ok (.ireturn, 1) := by decide +kernel
theorem dL_law_671 : decode cL_law 671 = .ok (.aload_n 1, 1) := by decide +kernel
theorem dL_law_672 : decode cL_law 672 = .ok (.invokevirtual 85, 3) := by decide +kernel
theorem dL_law_675 : decode cL_law 675 = .ok (.aload_n 2, 1) := by decide +kernel
theorem dL_law_676 : decode cL_law 676 = .ok (.invokevirtual 88, 3) := by decide +kernel
theorem dL_law_679 : decode cL_law 679 = .ok (.if_icmp .eq 100, 3) := by decide +kernel
theorem dL_law_682 : decode cL_law 682 = .ok (.iconst 0, 1) := by decide +kernel
theorem dL_law_683 : decode cL_law 683 = .ok (.ireturn, 1) := by decide +kernel
theorem dL_law_684 : decode cL_law 684 = .ok (.aload_n 1, 1) := by decide +kernel
theorem dL_law_685 : decode cL_law 685 = .ok (.invokevirtual 89, 3) := by decide +kernel
theorem dL_law_688 : decode cL_law 688 = .ok (.aload_n 2, 1) := by decide +kernel
theorem dL_law_689 : decode cL_law 689 = .ok (.invokevirtual 92, 3) := by decide +kernel
theorem dL_law_692 : decode cL_law 692 = .ok (.if_icmp .eq 87, 3) := by decide +kernel
theorem dL_law_695 : decode cL_law 695 = .ok (.iconst 0, 1) := by decide +kernel
theorem dL_law_696 : decode cL_law 696 = .ok (.ireturn, 1) := by decide +kernel
theorem dL_law_697 : decode cL_law 697 = .ok (.aload_n 1, 1) := by decide +kernel
theorem dL_law_698 : decode cL_law 698 = .ok (.invokevirtual 93, 3) := by decide +kernel
theorem dL_law_701 : decode cL_law 701 = .ok (.aload_n 2, 1) := by decide +kernel
theorem dL_law_702 : decode cL_law 702 = .ok (.invokevirtual 96, 3) := by decide +kernel
theorem dL_law_705 : decode cL_law 705 = .ok (.if_icmp .eq 74, 3) := by decide +kernel
theorem dL_law_708 : decode cL_law 708 = .ok (.iconst 0, 1) := by decide +kernel
theorem dL_law_709 : decode cL_law 709 = .ok (.ireturn, 1) := by decide +kernel
theorem dL_law_710 : decode cL_law 710 = .ok (.aload_n 1, 1) := by decide +kernel
theorem dL_law_711 : decode cL_law 711 = .ok (.aload_n 0, 1) := by decide +kernel
theorem dL_law_712 : decode cL_law 712 = .ok (.iload_n 3, 1) := by decide +kernel
theorem dL_law_713 : decode cL_law 713 = .ok (.iconst 1, 1) := by decide +kernel
theorem dL_law_714 : decode cL_law 714 = .ok (.iadd, 1) := by decide +kernel
theorem dL_law_715 : decode cL_law 715 = .ok (.iaload, 1) := by decide +kernel
theorem dL_law_716 : decode cL_law 716 = .ok (.invokevirtual 97, 3) := by decide +kernel
theorem dL_law_719 : decode cL_law 719 = .ok (.aload_n 2, 1) := by decide +kernel
theorem dL_law_720 : decode cL_law 720 = .ok (.aload_n 0, 1) := by decide +kernel
theorem dL_law_721 : decode cL_law 721 = .ok (.iload_n 3, 1) := by decide +kernel
theorem dL_law_722 : decode cL_law 722 = .ok (.iconst 1, 1) := by decide +kernel
theorem dL_law_723 : decode cL_law 723 = .ok (.iadd, 1) := by decide +kernel
theorem dL_law_724 : decode cL_law 724 = .ok (.iaload, 1) := by decide +kernel
theorem dL_law_725 : decode cL_law 725 = .ok (.invokevirtual 100, 3) := by decide +kernel
theorem dL_law_728 : decode cL_law 728 = .ok (.if_icmp .eq 51, 3) := by decide +kernel
theorem dL_law_731 : decode cL_law 731 = .ok (.iconst 0, 1) := by decide +kernel
theorem dL_law_732 : decode cL_law 732 = .ok (.ireturn, 1) := by decide +kernel
theorem dL_law_733 : decode cL_law 733 = .ok (.aload_n 1, 1) := by decide +kernel
theorem dL_law_734 : decode cL_law 734 = .ok (.aload_n 0, 1) := by decide +kernel
theorem dL_law_735 : decode cL_law 735 = .ok (.iload_n 3, 1) := by decide +kernel
theorem dL_law_736 : decode cL_law 736 = .ok (.iconst 1, 1) := by decide +kernel
theorem dL_law_737 : decode cL_law 737 = .ok (.iadd, 1) := by decide +kernel
theorem dL_law_738 : decode cL_law 738 = .ok (.iaload, 1) := by decide +kernel
theorem dL_law_739 : decode cL_law 739 = .ok (.invokevirtual 101, 3) := by decide +kernel
theorem dL_law_742 : decode cL_law 742 = .ok (.aload_n 2, 1) := by decide +kernel
theorem dL_law_743 : decode cL_law 743 = .ok (.aload_n 0, 1) := by decide +kernel
theorem dL_law_744 : decode cL_law 744 = .ok (.iload_n 3, 1) := by decide +kernel
theorem dL_law_745 : decode cL_law 745 = .ok (.iconst 1, 1) := by decide +kernel
theorem dL_law_746 : decode cL_law 746 = .ok (.iadd, 1) := by decide +kernel
theorem dL_law_747 : decode cL_law 747 = .ok (.iaload, 1) := by decide +kernel
theorem dL_law_748 : decode cL_law 748 = .ok (.invokevirtual 104, 3) := by decide +kernel
theorem dL_law_751 : decode cL_law 751 = .ok (.if_icmp .eq 28, 3) := by decide +kernel
theorem dL_law_754 : decode cL_law 754 = .ok (.iconst 0, 1) := by decide +kernel
theorem dL_law_755 : decode cL_law 755 = .ok (.ireturn, 1) := by decide +kernel
theorem dL_law_756 : decode cL_law 756 = .ok (.aload_n 1, 1) := by decide +kernel
theorem dL_law_757 : decode cL_law 757 = .ok (.aload_n 0, 1) := by decide +kernel
theorem dL_law_758 : decode cL_law 758 = .ok (.iload_n 3, 1) := by decide +kernel
theorem dL_law_759 : decode cL_law 759 = .ok (.iconst 1, 1) := by decide +kernel
theorem dL_law_760 : decode cL_law 760 = .ok (.iadd, 1) := by decide +kernel
theorem dL_law_761 : decode cL_law 761 = .ok (.iaload, 1) := by decide +kernel
theorem dL_law_762 : decode cL_law 762 = .ok (.invokevirtual 105, 3) := by decide +kernel
theorem dL_law_765 : decode cL_law 765 = .ok (.aload_n 2, 1) := by decide +kernel
theorem dL_law_766 : decode cL_law 766 = .ok (.aload_n 0, 1) := by decide +kernel
theorem dL_law_767 : decode cL_law 767 = .ok (.iload_n 3, 1) := by decide +kernel
theorem dL_law_768 : decode cL_law 768 = .ok (.iconst 1, 1) := by decide +kernel
theorem dL_law_769 : decode cL_law 769 = .ok (.iadd, 1) := by decide +kernel
theorem dL_law_770 : decode cL_law 770 = .ok (.iaload, 1) := by decide +kernel
theorem dL_law_771 : decode cL_law 771 = .ok (.invokevirtual 108, 3) := by decide +kernel
theorem dL_law_774 : decode cL_law 774 = .ok (.if_icmp .eq 5, 3) := by decide +kernel
theorem dL_law_777 : decode cL_law 777 = .ok (.iconst 0, 1) := by decide +kernel
theorem dL_law_778 : decode cL_law 778 = .ok (.ireturn, 1) := by decide +kernel
theorem dL_law_779 : decode cL_law 779 = .ok (.iinc 3 4, 3) := by decide +kernel
theorem dL_law_782 : decode cL_law 782 = .ok (.goto (-764), 3) := by decide +kernel
theorem dL_law_785 : decode cL_law 785 = .ok (.iconst 1, 1) := by decide +kernel
theorem dL_law_786 : decode cL_law 786 = .ok (.ireturn, 1) := by decide +kernel
end
section
def SHL : List sm_S := [(0, 8, [some 1, some 6, some 13, some 19, some 69, some 70, some 83, some 86, some 87, some 104, some 105]), (0, 7, [some 2, none, some 3, some 4, some 5]), (1, 60, []), (1, 61, []), (1, 61, []), (1, 61, []), (0, 4, [some 7, none, some 1, none]), (0, 1, [some 8, none]), (4, 4, [some 9, some 10, some 11, some 12]), (0, 0, [none, none, none, none, none, none]), (0, 0, [none, none, none, none, none, none]), (0, 0, [none, none, none, none, none, none]), (0, 0, [none, none, none, none, none, none]), (0, 1, [some 14, none]), (4, 4, [some 15, some 16, some 17, some 18]), (0, 0, [none, none, none, none, none, none]), (0, 0, [none, none, none, none, none, none]), (0, 0, [none, none, none, none, none, none]), (0, 0, [none, none, none, none, none, none]), (0, 3, [some 20, none, none]), (5, 8, [some 21, some 27, some 33, some 39, some 45, some 51, some 57, some 63]), (0, 1, [some 22, none]), (4, 4, [some 23, some 24, some 25, some 26]), (0, 0, [none, none, none, none, none, none]), (0, 0, [none, none, none, none, none, none]), (0, 0, [none, none, none, none, none, none]), (0, 0, [none, none, none, none, none, none]), (0, 1, [some 28, none]), (4, 4, [some 29, some 30, some 31, some 32]), (0, 0, [none, none, none, none, none, none]), (0, 0, [none, none, none, none, none, none]), (0, 0, [none, none, none, none, none, none]), (0, 0, [none, none, none, none, none, none]), (0, 1, [some 34, none]), (4, 4, [some 35, some 36, some 37, some 38]), (0, 0, [none, none, none, none, none, none]), (0, 0, [none, none, none, none, none, none]), (0, 0, [none, none, none, none, none, none]), (0, 0, [none, none, none, none, none, none]), (0, 1, [some 40, none]), (4, 4, [some 41, some 42, some 43, some 44]), (0, 0, [none, none, none, none, none, none]), (0, 0, [none, none, none, none, none, none]), (0, 0, [none, none, none, none, none, none]), (0, 0, [none, none, none, none, none, none]), (0, 1, [some 46, none]), (4, 4, [some 47, some 48, some 49, some 50]), (0, 0, [none, none, none, none, none, none]), (0, 0, [none, none, none, none, none, none]), (0, 0, [none, none, none, none, none, none]), (0, 0, [none, none, none, none, none, none]), (0, 1, [some 52, none]), (4, 4, [some 53, some 54, some 55, some 56]), (0, 0, [none, none, none, none, none, none]), (0, 0, [none, none, none, none, none, none]), (0, 0, [none, none, none, none, none, none]), (0, 0, [none, none, none, none, none, none]), (0, 1, [some 58, none]), (4, 4, [some 59, some 60, some 61, some 62]), (0, 0, [none, none, none, none, none, none]), (0, 0, [none, none, none, none, none, none]), (0, 0, [none, none, none, none, none, none]), (0, 0, [none, none, none, none, none, none]), (0, 1, [some 64, none]), (4, 4, [some 65, some 66, some 67, some 68]), (0, 0, [none, none, none, none, none, none]), (0, 0, [none, none, none, none, none, none]), (0, 0, [none, none, none, none, none, none]), (0, 0, [none, none, none, none, none, none]), (5, 2, [some 71, some 77]), (2, 2, []), (0, 1, [some 72, none]), (4, 4, [some 73, some 74, some 75, some 76]), (0, 0, [none, none, none, none, none, none]), (0, 0, [none, none, none, none, none, none]), (0, 0, [none, none, none, none, none, none]), (0, 0, [none, none, none, none, none, none]), (0, 1, [some 78, none]), (4, 4, [some 79, some 80, some 81, some 82]), (0, 0, [none, none, none, none, none, none]), (0, 0, [none, none, none, none, none, none]), (0, 0, [none, none, none, none, none, none]), (0, 0, [none, none, none, none, none, none]), (0, 6, [some 84, some 85, none]), (1, 6, []), (1, 6, []), (6, 4, [some 88, some 92, some 96, some 100]), (6, 4, [some 90, some 94, some 98, some 102]), (0, 2, [none, some 89, none, none, none, none]), (1, 41, []), (0, 2, [none, some 91, none, none, none, none]), (1, 41, []), (0, 2, [none, some 93, none, none, none, none]), (1, 41, []), (0, 2, [none, some 95, none, none, none, none]), (1, 41, []), (0, 2, [none, some 97, none, none, none, none]), (1, 41, []), (0, 2, [none, some 99, none, none, none, none]), (1, 41, []), (0, 2, [none, some 101, none, none, none, none]), (1, 41, []), (0, 2, [none, some 103, none, none, none, none]), (1, 41, []), (0, 5, [none, none, none, none, none]), (1, 4, []), (0, 9, [none, some 107, some 108, some 109, none, some 110, some 111, some 112, none, some 113, none, none, none, none, none, none, some 114, none, none, none, some 115]), (1, 25, []), (1, 25, []), (1, 200, []), (1, 50, []), (2, 2, []), (1, 12, []), (3, 60, []), (1, 41, []), (1, 4000, [])]
def SH (a : Nat) : sm_S := SHL.getD a (9, 0, [])
theorem SH_lt {a : Nat} {q : sm_S} (h : SH a = q) (hq : q.1 ≠ 9) : a < 116 := by
  rcases Nat.lt_or_ge a 116 with h1 | h1
  · exact h1
  · exfalso
    apply hq
    rw [← h]
    unfold SH
    rw [List.getD_eq_getElem?_getD, List.getElem?_eq_none (by exact h1)]
    rfl
theorem sh_0 : SH 0 = (0, 8, [some 1, some 6, some 13, some 19, some 69, some 70, some 83, some 86, some 87, some 104, some 105]) := rfl
theorem sh_1 : SH 1 = (0, 7, [some 2, none, some 3, some 4, some 5]) := rfl
theorem sh_2 : SH 2 = (1, 60, []) := rfl
theorem sh_3 : SH 3 = (1, 61, []) := rfl
theorem sh_4 : SH 4 = (1, 61, []) := rfl
theorem sh_5 : SH 5 = (1, 61, []) := rfl
theorem sh_6 : SH 6 = (0, 4, [some 7, none, some 1, none]) := rfl
theorem sh_7 : SH 7 = (0, 1, [some 8, none]) := rfl
theorem sh_8 : SH 8 = (4, 4, [some 9, some 10, some 11, some 12]) := rfl
theorem sh_9 : SH 9 = (0, 0, [none, none, none, none, none, none]) := rfl
theorem sh_10 : SH 10 = (0, 0, [none, none, none, none, none, none]) := rfl
theorem sh_11 : SH 11 = (0, 0, [none, none, none, none, none, none]) := rfl
theorem sh_12 : SH 12 = (0, 0, [none, none, none, none, none, none]) := rfl
theorem sh_13 : SH 13 = (0, 1, [some 14, none]) := rfl
theorem sh_14 : SH 14 = (4, 4, [some 15, some 16, some 17, some 18]) := rfl
theorem sh_15 : SH 15 = (0, 0, [none, none, none, none, none, none]) := rfl
theorem sh_16 : SH 16 = (0, 0, [none, none, none, none, none, none]) := rfl
theorem sh_17 : SH 17 = (0, 0, [none, none, none, none, none, none]) := rfl
theorem sh_18 : SH 18 = (0, 0, [none, none, none, none, none, none]) := rfl
theorem sh_19 : SH 19 = (0, 3, [some 20, none, none]) := rfl
theorem sh_20 : SH 20 = (5, 8, [some 21, some 27, some 33, some 39, some 45, some 51, some 57, some 63]) := rfl
theorem sh_21 : SH 21 = (0, 1, [some 22, none]) := rfl
theorem sh_22 : SH 22 = (4, 4, [some 23, some 24, some 25, some 26]) := rfl
theorem sh_23 : SH 23 = (0, 0, [none, none, none, none, none, none]) := rfl
theorem sh_24 : SH 24 = (0, 0, [none, none, none, none, none, none]) := rfl
theorem sh_25 : SH 25 = (0, 0, [none, none, none, none, none, none]) := rfl
theorem sh_26 : SH 26 = (0, 0, [none, none, none, none, none, none]) := rfl
theorem sh_27 : SH 27 = (0, 1, [some 28, none]) := rfl
theorem sh_28 : SH 28 = (4, 4, [some 29, some 30, some 31, some 32]) := rfl
theorem sh_29 : SH 29 = (0, 0, [none, none, none, none, none, none]) := rfl
theorem sh_30 : SH 30 = (0, 0, [none, none, none, none, none, none]) := rfl
theorem sh_31 : SH 31 = (0, 0, [none, none, none, none, none, none]) := rfl
theorem sh_32 : SH 32 = (0, 0, [none, none, none, none, none, none]) := rfl
theorem sh_33 : SH 33 = (0, 1, [some 34, none]) := rfl
theorem sh_34 : SH 34 = (4, 4, [some 35, some 36, some 37, some 38]) := rfl
theorem sh_35 : SH 35 = (0, 0, [none, none, none, none, none, none]) := rfl
theorem sh_36 : SH 36 = (0, 0, [none, none, none, none, none, none]) := rfl
theorem sh_37 : SH 37 = (0, 0, [none, none, none, none, none, none]) := rfl
theorem sh_38 : SH 38 = (0, 0, [none, none, none, none, none, none]) := rfl
theorem sh_39 : SH 39 = (0, 1, [some 40, none]) := rfl
theorem sh_40 : SH 40 = (4, 4, [some 41, some 42, some 43, some 44]) := rfl
theorem sh_41 : SH 41 = (0, 0, [none, none, none, none, none, none]) := rfl
theorem sh_42 : SH 42 = (0, 0, [none, none, none, none, none, none]) := rfl
theorem sh_43 : SH 43 = (0, 0, [none, none, none, none, none, none]) := rfl
theorem sh_44 : SH 44 = (0, 0, [none, none, none, none, none, none]) := rfl
theorem sh_45 : SH 45 = (0, 1, [some 46, none]) := rfl
theorem sh_46 : SH 46 = (4, 4, [some 47, some 48, some 49, some 50]) := rfl
theorem sh_47 : SH 47 = (0, 0, [none, none, none, none, none, none]) := rfl
theorem sh_48 : SH 48 = (0, 0, [none, none, none, none, none, none]) := rfl
theorem sh_49 : SH 49 = (0, 0, [none, none, none, none, none, none]) := rfl
theorem sh_50 : SH 50 = (0, 0, [none, none, none, none, none, none]) := rfl
theorem sh_51 : SH 51 = (0, 1, [some 52, none]) := rfl
theorem sh_52 : SH 52 = (4, 4, [some 53, some 54, some 55, some 56]) := rfl
theorem sh_53 : SH 53 = (0, 0, [none, none, none, none, none, none]) := rfl
theorem sh_54 : SH 54 = (0, 0, [none, none, none, none, none, none]) := rfl
theorem sh_55 : SH 55 = (0, 0, [none, none, none, none, none, none]) := rfl
theorem sh_56 : SH 56 = (0, 0, [none, none, none, none, none, none]) := rfl
theorem sh_57 : SH 57 = (0, 1, [some 58, none]) := rfl
theorem sh_58 : SH 58 = (4, 4, [some 59, some 60, some 61, some 62]) := rfl
theorem sh_59 : SH 59 = (0, 0, [none, none, none, none, none, none]) := rfl
theorem sh_60 : SH 60 = (0, 0, [none, none, none, none, none, none]) := rfl
theorem sh_61 : SH 61 = (0, 0, [none, none, none, none, none, none]) := rfl
theorem sh_62 : SH 62 = (0, 0, [none, none, none, none, none, none]) := rfl
theorem sh_63 : SH 63 = (0, 1, [some 64, none]) := rfl
theorem sh_64 : SH 64 = (4, 4, [some 65, some 66, some 67, some 68]) := rfl
theorem sh_65 : SH 65 = (0, 0, [none, none, none, none, none, none]) := rfl
theorem sh_66 : SH 66 = (0, 0, [none, none, none, none, none, none]) := rfl
theorem sh_67 : SH 67 = (0, 0, [none, none, none, none, none, none]) := rfl
theorem sh_68 : SH 68 = (0, 0, [none, none, none, none, none, none]) := rfl
theorem sh_69 : SH 69 = (5, 2, [some 71, some 77]) := rfl
theorem sh_70 : SH 70 = (2, 2, []) := rfl
theorem sh_71 : SH 71 = (0, 1, [some 72, none]) := rfl
theorem sh_72 : SH 72 = (4, 4, [some 73, some 74, some 75, some 76]) := rfl
theorem sh_73 : SH 73 = (0, 0, [none, none, none, none, none, none]) := rfl
theorem sh_74 : SH 74 = (0, 0, [none, none, none, none, none, none]) := rfl
theorem sh_75 : SH 75 = (0, 0, [none, none, none, none, none, none]) := rfl
theorem sh_76 : SH 76 = (0, 0, [none, none, none, none, none, none]) := rfl
theorem sh_77 : SH 77 = (0, 1, [some 78, none]) := rfl
theorem sh_78 : SH 78 = (4, 4, [some 79, some 80, some 81, some 82]) := rfl
theorem sh_79 : SH 79 = (0, 0, [none, none, none, none, none, none]) := rfl
theorem sh_80 : SH 80 = (0, 0, [none, none, none, none, none, none]) := rfl
theorem sh_81 : SH 81 = (0, 0, [none, none, none, none, none, none]) := rfl
theorem sh_82 : SH 82 = (0, 0, [none, none, none, none, none, none]) := rfl
theorem sh_83 : SH 83 = (0, 6, [some 84, some 85, none]) := rfl
theorem sh_84 : SH 84 = (1, 6, []) := rfl
theorem sh_85 : SH 85 = (1, 6, []) := rfl
theorem sh_86 : SH 86 = (6, 4, [some 88, some 92, some 96, some 100]) := rfl
theorem sh_87 : SH 87 = (6, 4, [some 90, some 94, some 98, some 102]) := rfl
theorem sh_88 : SH 88 = (0, 2, [none, some 89, none, none, none, none]) := rfl
theorem sh_89 : SH 89 = (1, 41, []) := rfl
theorem sh_90 : SH 90 = (0, 2, [none, some 91, none, none, none, none]) := rfl
theorem sh_91 : SH 91 = (1, 41, []) := rfl
theorem sh_92 : SH 92 = (0, 2, [none, some 93, none, none, none, none]) := rfl
theorem sh_93 : SH 93 = (1, 41, []) := rfl
theorem sh_94 : SH 94 = (0, 2, [none, some 95, none, none, none, none]) := rfl
theorem sh_95 : SH 95 = (1, 41, []) := rfl
theorem sh_96 : SH 96 = (0, 2, [none, some 97, none, none, none, none]) := rfl
theorem sh_97 : SH 97 = (1, 41, []) := rfl
theorem sh_98 : SH 98 = (0, 2, [none, some 99, none, none, none, none]) := rfl
theorem sh_99 : SH 99 = (1, 41, []) := rfl
theorem sh_100 : SH 100 = (0, 2, [none, some 101, none, none, none, none]) := rfl
theorem sh_101 : SH 101 = (1, 41, []) := rfl
theorem sh_102 : SH 102 = (0, 2, [none, some 103, none, none, none, none]) := rfl
theorem sh_103 : SH 103 = (1, 41, []) := rfl
theorem sh_104 : SH 104 = (0, 5, [none, none, none, none, none]) := rfl
theorem sh_105 : SH 105 = (1, 4, []) := rfl
theorem sh_106 : SH 106 = (0, 9, [none, some 107, some 108, some 109, none, some 110, some 111, some 112, none, some 113, none, none, none, none, none, none, some 114, none, none, none, some 115]) := rfl
theorem sh_107 : SH 107 = (1, 25, []) := rfl
theorem sh_108 : SH 108 = (1, 25, []) := rfl
theorem sh_109 : SH 109 = (1, 200, []) := rfl
theorem sh_110 : SH 110 = (1, 50, []) := rfl
theorem sh_111 : SH 111 = (2, 2, []) := rfl
theorem sh_112 : SH 112 = (1, 12, []) := rfl
theorem sh_113 : SH 113 = (3, 60, []) := rfl
theorem sh_114 : SH 114 = (1, 41, []) := rfl
theorem sh_115 : SH 115 = (1, 4000, []) := rfl

/-- THE WALK behind both constructors: shapes are SH, nothing is made -/
def X0 (ζ : sm_Z) (d : Nat) (μ : sm_Mu) (pc : Nat) (lv : List (Option Value)) (st : List Value) (I : sm_I) (Q : Option Value → sm_I → Prop) : Prop := Xm ζ (sm_rm d 0 0) μ pc lv st 0 0 116 SH I (fun r n sh I' => n = 116 ∧ sh = SH ∧ Q r I')
/-- A CONTRACT there -/
def E0 (d : Nat) (μ : sm_Mu) (as : List Value) (I : sm_I) (Q : Option Value → sm_I → Prop) : Prop := Em d 0 0 μ as 116 SH I (fun r n sh I' => n = 116 ∧ sh = SH ∧ Q r I')
theorem E0.of {d : Nat} {μ : sm_Mu} {as : List Value} {I : sm_I} {Q : Option Value → sm_I → Prop} (hy : plainName μ.1.cls = true) (hcat : ∀ v ∈ as, v.category = 1) (hlen : as.length ≤ μ.2.2.1) (hb : ∀ ζ, X0 ζ d μ 0 (as.map some ++ List.replicate (μ.2.2.1 - as.length) none) [] I Q) : E0 d μ as I Q := Em.of hy hcat hlen hb
section O0
variable {ζ : sm_Z} {d : Nat} {μ : sm_Mu} {pc : Nat} {lv : List (Option Value)} {st : List Value} {I : sm_I} {Q : Option Value → sm_I → Prop}
theorem X0.mono {Q' : Option Value → sm_I → Prop} (h : ∀ r I, Q' r I → Q r I) (k : X0 ζ d μ pc lv st I Q') : X0 ζ d μ pc lv st I Q := Xm.mono (fun r n sh I h2 => ⟨h2.1, h2.2.1, h r I h2.2.2⟩) k
theorem o_ret {r : Option Value} (hr : sm_R μ r pc) (hq : Q r I) : X0 ζ d μ pc lv r.toList I Q := x_ret hr (Nat.zero_le _) (Nat.zero_le _) ⟨rfl, rfl, hq⟩
/-- ireturn of an int -/
theorem o_iret {v : Int32} (hd : decode μ.2.1 pc = .ok (.ireturn, 1)) (ht : μ.2.2.2 = some .int) (hq : Q (some (.int v)) I) : X0 ζ d μ pc lv [.int v] I Q := o_ret (r := some (.int v)) ⟨⟨.int, ht, rfl⟩, hd⟩ hq
/-- ireturn of a boolean -/
theorem o_zret {v : Int32} (hd : decode μ.2.1 pc = .ok (.ireturn, 1)) (ht : μ.2.2.2 = some .boolean) (hv : v = 0 ∨ v = 1) (hq : Q (some (.int v)) I) : X0 ζ d μ pc lv [.int v] I Q := o_ret (r := some (.int v)) ⟨⟨.boolean, ht, by rcases hv with rfl | rfl <;> rfl⟩, hd⟩ hq
theorem o_vret (hd : decode μ.2.1 pc = .ok (.return_, 1)) (ht : μ.2.2.2 = none) (hq : Q none I) : X0 ζ d μ pc lv [] I Q := o_ret (r := none) ⟨ht, hd⟩ hq
theorem o_fret {v : UInt32} (hd : decode μ.2.1 pc = .ok (.freturn, 1)) (ht : μ.2.2.2 = some .float) (hq : Q (some (.float v)) I) : X0 ζ d μ pc lv [.float v] I Q := o_ret (r := some (.float v)) ⟨ht, hd⟩ hq
theorem o_aret {a : Nat} {K : String} (hd : decode μ.2.1 pc = .ok (.areturn, 1)) (ht : μ.2.2.2 = some (.object K)) (hq : Q (some (.ref a)) I) : X0 ζ d μ pc lv [.ref a] I Q := o_ret (r := some (.ref a)) ⟨⟨K, ht⟩, hd⟩ hq

theorem o_iadd {x y : Int32} (hd : decode μ.2.1 pc = .ok (.iadd, 1)) (k : X0 ζ d μ (pc + 1) lv (.int (x + y) :: st) I Q) : X0 ζ d μ pc lv (.int y :: .int x :: st) I Q := x_iadd hd k
theorem o_isub {x y : Int32} (hd : decode μ.2.1 pc = .ok (.isub, 1)) (k : X0 ζ d μ (pc + 1) lv (.int (x - y) :: st) I Q) : X0 ζ d μ pc lv (.int y :: .int x :: st) I Q := x_isub hd k
theorem o_imul {x y : Int32} (hd : decode μ.2.1 pc = .ok (.imul, 1)) (k : X0 ζ d μ (pc + 1) lv (.int (x * y) :: st) I Q) : X0 ζ d μ pc lv (.int y :: .int x :: st) I Q := x_imul hd k
theorem o_iand {x y : Int32} (hd : decode μ.2.1 pc = .ok (.iand, 1)) (k : X0 ζ d μ (pc + 1) lv (.int (x &&& y) :: st) I Q) : X0 ζ d μ pc lv (.int y :: .int x :: st) I Q := x_iand hd k
theorem o_ior {x y : Int32} (hd : decode μ.2.1 pc = .ok (.ior, 1)) (k : X0 ζ d μ (pc + 1) lv (.int (x ||| y) :: st) I Q) : X0 ζ d μ pc lv (.int y :: .int x :: st) I Q := x_ior hd k
theorem o_ishl {x y : Int32} (hd : decode μ.2.1 pc = .ok (.ishl, 1)) (k : X0 ζ d μ (pc + 1) lv (.int (x <<< (y &&& 31)) :: st) I Q) : X0 ζ d μ pc lv (.int y :: .int x :: st) I Q := x_ishl hd k
theorem o_ishr {x y : Int32} (hd : decode μ.2.1 pc = .ok (.ishr, 1)) (k : X0 ζ d μ (pc + 1) lv (.int (x >>> (y &&& 31)) :: st) I Q) : X0 ζ d μ pc lv (.int y :: .int x :: st) I Q := x_ishr hd k
theorem o_iushr {x y : Int32} (hd : decode μ.2.1 pc = .ok (.iushr, 1)) (k : X0 ζ d μ (pc + 1) lv (.int (x.toUInt32 >>> (y.toUInt32 &&& Int32.toUInt32 31)).toInt32 :: st) I Q) : X0 ζ d μ pc lv (.int y :: .int x :: st) I Q := x_iushr hd k
theorem o_idiv {x y : Int32} (hd : decode μ.2.1 pc = .ok (.idiv, 1)) (hne : ¬ y = 0) (k : X0 ζ d μ (pc + 1) lv (.int (x / y) :: st) I Q) : X0 ζ d μ pc lv (.int y :: .int x :: st) I Q := x_idiv hd hne k
theorem o_irem {x y : Int32} (hd : decode μ.2.1 pc = .ok (.irem, 1)) (hne : ¬ y = 0) (k : X0 ζ d μ (pc + 1) lv (.int (x - x / y * y) :: st) I Q) : X0 ζ d μ pc lv (.int y :: .int x :: st) I Q := x_irem hd hne k
theorem o_i2b {x : Int32} (hd : decode μ.2.1 pc = .ok (.i2b, 1)) (k : X0 ζ d μ (pc + 1) lv (.int x.toInt8.toInt32 :: st) I Q) : X0 ζ d μ pc lv (.int x :: st) I Q := x_i2b hd k
theorem o_i2f {x : Int32} (hd : decode μ.2.1 pc = .ok (.i2f, 1)) (k : X0 ζ d μ (pc + 1) lv (.float (FP.i2f x) :: st) I Q) : X0 ζ d μ pc lv (.int x :: st) I Q := x_i2f hd k
theorem o_f2i {x : UInt32} (hd : decode μ.2.1 pc = .ok (.f2i, 1)) (k : X0 ζ d μ (pc + 1) lv (.int (FP.f2i x) :: st) I Q) : X0 ζ d μ pc lv (.float x :: st) I Q := x_f2i hd k
theorem o_fadd {x y : UInt32} (hd : decode μ.2.1 pc = .ok (.fadd, 1)) (hne : vf_n32 (FP.fadd x y)) (k : X0 ζ d μ (pc + 1) lv (.float (FP.fadd x y) :: st) I Q) : X0 ζ d μ pc lv (.float y :: .float x :: st) I Q := x_fadd hd hne k
theorem o_fmul {x y : UInt32} (hd : decode μ.2.1 pc = .ok (.fmul, 1)) (hne : vf_n32 (FP.fmul x y)) (k : X0 ζ d μ (pc + 1) lv (.float (FP.fmul x y) :: st) I Q) : X0 ζ d μ pc lv (.float y :: .float x :: st) I Q := x_fmul hd hne k
theorem o_fdiv {x y : UInt32} (hd : decode μ.2.1 pc = .ok (.fdiv, 1)) (hne : vf_n32 (FP.fdiv x y)) (k : X0 ζ d μ (pc + 1) lv (.float (FP.fdiv x y) :: st) I Q) : X0 ζ d μ pc lv (.float y :: .float x :: st) I Q := x_fdiv hd hne k
theorem o_fcmp {x y : UInt32} {op : CmpOp} (hd : decode μ.2.1 pc = .ok (.fcmp op, 1)) (k : X0 ζ d μ (pc + 1) lv (.int (Op.cmpValue (FP.fcmp x y) op) :: st) I Q) : X0 ζ d μ pc lv (.float y :: .float x :: st) I Q := x_fcmp hd k
theorem o_fconst0  (hd : decode μ.2.1 pc = .ok (.fconst 0, 1)) (k : X0 ζ d μ (pc + 1) lv (.float FP.fconst0 :: st) I Q) : X0 ζ d μ pc lv st I Q := x_fconst0 hd k
theorem o_iconst {i : Int} {v : Int32} (hd : decode μ.2.1 pc = .ok (.iconst i, 1)) (hv : Int32.ofInt i = v) (k : X0 ζ d μ (pc + 1) lv (.int v :: st) I Q) : X0 ζ d μ pc lv st I Q := x_iconst hd hv k
theorem o_bipush {i : Int} {v : Int32} (hd : decode μ.2.1 pc = .ok (.bipush i, 2)) (hv : (Int8.ofInt i).toInt32 = v) (k : X0 ζ d μ (pc + 2) lv (.int v :: st) I Q) : X0 ζ d μ pc lv st I Q := x_bipush hd hv k
theorem o_sipush {i : Int} {v : Int32} (hd : decode μ.2.1 pc = .ok (.sipush i, 3)) (hv : (Int16.ofInt i).toInt32 = v) (k : X0 ζ d μ (pc + 3) lv (.int v :: st) I Q) : X0 ζ d μ pc lv st I Q := x_sipush hd hv k
theorem o_dup {v : Value} (hd : decode μ.2.1 pc = .ok (.dup, 1)) (hv : v.category = 1) (k : X0 ζ d μ (pc + 1) lv (v :: v :: st) I Q) : X0 ζ d μ pc lv (v :: st) I Q := x_dup hd hv k
theorem o_pop {v : Value} (hd : decode μ.2.1 pc = .ok (.pop, 1)) (hv : v.category = 1) (k : X0 ζ d μ (pc + 1) lv st I Q) : X0 ζ d μ pc lv (v :: st) I Q := x_pop hd hv k
theorem o_dup2 {v w : Value} (hd : decode μ.2.1 pc = .ok (.dup2, 1)) (hv : v.category = 1) (hw : w.category = 1) (k : X0 ζ d μ (pc + 1) lv (v :: w :: v :: w :: st) I Q) : X0 ζ d μ pc lv (v :: w :: st) I Q := x_dup2 hd hv hw k
theorem o_iload_n {j : Fin 4} {i : Nat} {x : Int32} (hd : decode μ.2.1 pc = .ok (.iload_n j, 1)) (hi : (j : Nat) = i) (hl : lv[i]? = some (some (.int x))) (k : X0 ζ d μ (pc + 1) lv (.int x :: st) I Q) : X0 ζ d μ pc lv st I Q := x_iload_n hd hi hl k
theorem o_iload {i : Nat} {x : Int32} (hd : decode μ.2.1 pc = .ok (.iload i, 2)) (hl : lv[i]? = some (some (.int x))) (k : X0 ζ d μ (pc + 2) lv (.int x :: st) I Q) : X0 ζ d μ pc lv st I Q := x_iload hd hl k
theorem o_aload_n {j : Fin 4} {i : Nat} {x : Nat} (hd : decode μ.2.1 pc = .ok (.aload_n j, 1)) (hi : (j : Nat) = i) (hl : lv[i]? = some (some (.ref x))) (k : X0 ζ d μ (pc + 1) lv (.ref x :: st) I Q) : X0 ζ d μ pc lv st I Q := x_aload_n hd hi hl k
theorem o_aload {i : Nat} {x : Nat} (hd : decode μ.2.1 pc = .ok (.aload i, 2)) (hl : lv[i]? = some (some (.ref x))) (k : X0 ζ d μ (pc + 2) lv (.ref x :: st) I Q) : X0 ζ d μ pc lv st I Q := x_aload hd hl k
theorem o_fload_n {j : Fin 4} {i : Nat} {x : UInt32} (hd : decode μ.2.1 pc = .ok (.fload_n j, 1)) (hi : (j : Nat) = i) (hl : lv[i]? = some (some (.float x))) (k : X0 ζ d μ (pc + 1) lv (.float x :: st) I Q) : X0 ζ d μ pc lv st I Q := x_fload_n hd hi hl k
theorem o_istore_n {j : Fin 4} {i : Nat} {x : Int32} (hd : decode μ.2.1 pc = .ok (.istore_n j, 1)) (hi : (j : Nat) = i) (hn : i < μ.2.2.1) (k : X0 ζ d μ (pc + 1) (lv.set i (some (.int x))) st I Q) : X0 ζ d μ pc lv (.int x :: st) I Q := x_istore_n hd hi hn k
theorem o_istore {i : Nat} {x : Int32} (hd : decode μ.2.1 pc = .ok (.istore i, 2)) (hn : i < μ.2.2.1) (k : X0 ζ d μ (pc + 2) (lv.set i (some (.int x))) st I Q) : X0 ζ d μ pc lv (.int x :: st) I Q := x_istore hd hn k
theorem o_astore_n {j : Fin 4} {i : Nat} {x : Nat} (hd : decode μ.2.1 pc = .ok (.astore_n j, 1)) (hi : (j : Nat) = i) (hn : i < μ.2.2.1) (k : X0 ζ d μ (pc + 1) (lv.set i (some (.ref x))) st I Q) : X0 ζ d μ pc lv (.ref x :: st) I Q := x_astore_n hd hi hn k
theorem o_astore {i : Nat} {x : Nat} (hd : decode μ.2.1 pc = .ok (.astore i, 2)) (hn : i < μ.2.2.1) (k : X0 ζ d μ (pc + 2) (lv.set i (some (.ref x))) st I Q) : X0 ζ d μ pc lv (.ref x :: st) I Q := x_astore hd hn k
theorem o_fstore_n {j : Fin 4} {i : Nat} {x : UInt32} (hd : decode μ.2.1 pc = .ok (.fstore_n j, 1)) (hi : (j : Nat) = i) (hn : i < μ.2.2.1) (k : X0 ζ d μ (pc + 1) (lv.set i (some (.float x))) st I Q) : X0 ζ d μ pc lv (.float x :: st) I Q := x_fstore_n hd hi hn k
theorem o_if_eq {x : Int32} {off : Int} {tgt : Nat} (hd : decode μ.2.1 pc = .ok (.ifCond .eq off, 3)) (ht : (pc : Int) + off = (tgt : Int)) (kt : x = 0 → X0 ζ d μ tgt lv st I Q) (kf : ¬ x = 0 → X0 ζ d μ (pc + 3) lv st I Q) : X0 ζ d μ pc lv (.int x :: st) I Q := x_if_eq hd ht kt kf
theorem o_if_ne {x : Int32} {off : Int} {tgt : Nat} (hd : decode μ.2.1 pc = .ok (.ifCond .ne off, 3)) (ht : (pc : Int) + off = (tgt : Int)) (kt : ¬ x = 0 → X0 ζ d μ tgt lv st I Q) (kf : x = 0 → X0 ζ d μ (pc + 3) lv st I Q) : X0 ζ d μ pc lv (.int x :: st) I Q := x_if_ne hd ht kt kf
theorem o_if_lt {x : Int32} {off : Int} {tgt : Nat} (hd : decode μ.2.1 pc = .ok (.ifCond .lt off, 3)) (ht : (pc : Int) + off = (tgt : Int)) (kt : x < 0 → X0 ζ d μ tgt lv st I Q) (kf : ¬ x < 0 → X0 ζ d μ (pc + 3) lv st I Q) : X0 ζ d μ pc lv (.int x :: st) I Q := x_if_lt hd ht kt kf
theorem o_if_ge {x : Int32} {off : Int} {tgt : Nat} (hd : decode μ.2.1 pc = .ok (.ifCond .ge off, 3)) (ht : (pc : Int) + off = (tgt : Int)) (kt : 0 ≤ x → X0 ζ d μ tgt lv st I Q) (kf : ¬ 0 ≤ x → X0 ζ d μ (pc + 3) lv st I Q) : X0 ζ d μ pc lv (.int x :: st) I Q := x_if_ge hd ht kt kf
theorem o_if_gt {x : Int32} {off : Int} {tgt : Nat} (hd : decode μ.2.1 pc = .ok (.ifCond .gt off, 3)) (ht : (pc : Int) + off = (tgt : Int)) (kt : 0 < x → X0 ζ d μ tgt lv st I Q) (kf : ¬ 0 < x → X0 ζ d μ (pc + 3) lv st I Q) : X0 ζ d μ pc lv (.int x :: st) I Q := x_if_gt hd ht kt kf
theorem o_if_le {x : Int32} {off : Int} {tgt : Nat} (hd : decode μ.2.1 pc = .ok (.ifCond .le off, 3)) (ht : (pc : Int) + off = (tgt : Int)) (kt : x ≤ 0 → X0 ζ d μ tgt lv st I Q) (kf : ¬ x ≤ 0 → X0 ζ d μ (pc + 3) lv st I Q) : X0 ζ d μ pc lv (.int x :: st) I Q := x_if_le hd ht kt kf
theorem o_icmp_eq {x y : Int32} {off : Int} {tgt : Nat} (hd : decode μ.2.1 pc = .ok (.if_icmp .eq off, 3)) (ht : (pc : Int) + off = (tgt : Int)) (kt : x = y → X0 ζ d μ tgt lv st I Q) (kf : ¬ x = y → X0 ζ d μ (pc + 3) lv st I Q) : X0 ζ d μ pc lv (.int y :: .int x :: st) I Q := x_icmp_eq hd ht kt kf
theorem o_icmp_ne {x y : Int32} {off : Int} {tgt : Nat} (hd : decode μ.2.1 pc = .ok (.if_icmp .ne off, 3)) (ht : (pc : Int) + off = (tgt : Int)) (kt : ¬ x = y → X0 ζ d μ tgt lv st I Q) (kf : x = y → X0 ζ d μ (pc + 3) lv st I Q) : X0 ζ d μ pc lv (.int y :: .int x :: st) I Q := x_icmp_ne hd ht kt kf
theorem o_icmp_lt {x y : Int32} {off : Int} {tgt : Nat} (hd : decode μ.2.1 pc = .ok (.if_icmp .lt off, 3)) (ht : (pc : Int) + off = (tgt : Int)) (kt : x < y → X0 ζ d μ tgt lv st I Q) (kf : ¬ x < y → X0 ζ d μ (pc + 3) lv st I Q) : X0 ζ d μ pc lv (.int y :: .int x :: st) I Q := x_icmp_lt hd ht kt kf
theorem o_icmp_ge {x y : Int32} {off : Int} {tgt : Nat} (hd : decode μ.2.1 pc = .ok (.if_icmp .ge off, 3)) (ht : (pc : Int) + off = (tgt : Int)) (kt : y ≤ x → X0 ζ d μ tgt lv st I Q) (kf : ¬ y ≤ x → X0 ζ d μ (pc + 3) lv st I Q) : X0 ζ d μ pc lv (.int y :: .int x :: st) I Q := x_icmp_ge hd ht kt kf
theorem o_icmp_gt {x y : Int32} {off : Int} {tgt : Nat} (hd : decode μ.2.1 pc = .ok (.if_icmp .gt off, 3)) (ht : (pc : Int) + off = (tgt : Int)) (kt : y < x → X0 ζ d μ tgt lv st I Q) (kf : ¬ y < x → X0 ζ d μ (pc + 3) lv st I Q) : X0 ζ d μ pc lv (.int y :: .int x :: st) I Q := x_icmp_gt hd ht kt kf
theorem o_icmp_le {x y : Int32} {off : Int} {tgt : Nat} (hd : decode μ.2.1 pc = .ok (.if_icmp .le off, 3)) (ht : (pc : Int) + off = (tgt : Int)) (kt : x ≤ y → X0 ζ d μ tgt lv st I Q) (kf : ¬ x ≤ y → X0 ζ d μ (pc + 3) lv st I Q) : X0 ζ d μ pc lv (.int y :: .int x :: st) I Q := x_icmp_le hd ht kt kf
theorem o_goto {off : Int} {tgt : Nat} (hd : decode μ.2.1 pc = .ok (.goto off, 3)) (ht : (pc : Int) + off = (tgt : Int)) (k : X0 ζ d μ tgt lv st I Q) : X0 ζ d μ pc lv st I Q := x_goto hd ht k
theorem o_tableOut {dflt lo hi : Int} {offs : Array Int} {len : Nat} {x : Int32} {tgt : Nat} (hd : decode μ.2.1 pc = .ok (.tableswitch dflt lo hi offs, len)) (h : x.toInt < lo ∨ hi < x.toInt) (ht : (pc : Int) + dflt = (tgt : Int)) (k : X0 ζ d μ tgt lv st I Q) : X0 ζ d μ pc lv (.int x :: st) I Q := x_tableOut hd h ht k
theorem o_tableIn {dflt lo hi : Int} {offs : Array Int} {len : Nat} {x : Int32} {off : Int} {tgt : Nat} (hd : decode μ.2.1 pc = .ok (.tableswitch dflt lo hi offs, len)) (h1 : ¬ x.toInt < lo) (h2 : ¬ hi < x.toInt) (ho : offs[(x.toInt - lo).toNat]? = some off) (ht : (pc : Int) + off = (tgt : Int)) (k : X0 ζ d μ tgt lv st I Q) : X0 ζ d μ pc lv (.int x :: st) I Q := x_tableIn hd h1 h2 ho ht k
theorem o_ldcf {idx : Nat} {v : UInt32} (hd : decode μ.2.1 pc = .ok (.ldc idx, 2)) (hw : Cond.constantFloat μ.1.cls idx v ∈ lw_good) (k : X0 ζ d μ (pc + 2) lv (.float v :: st) I Q) : X0 ζ d μ pc lv st I Q := x_ldcf hd hw k
theorem o_ldc {idx : Nat} {v : Int32} (hd : decode μ.2.1 pc = .ok (.ldc idx, 2)) (hw : Cond.constant μ.1.cls idx v ∈ lw_good) (k : X0 ζ d μ (pc + 2) lv (.int v :: st) I Q) : X0 ζ d μ pc lv st I Q := x_ldc hd hw k
theorem o_ldcw {idx : Nat} {v : Int32} (hd : decode μ.2.1 pc = .ok (.ldc_w idx, 3)) (hw : Cond.constant μ.1.cls idx v ∈ lw_good) (k : X0 ζ d μ (pc + 3) lv (.int v :: st) I Q) : X0 ζ d μ pc lv st I Q := x_ldcw hd hw k
theorem o_sld {i : Int32} (hd : decode μ.2.1 pc = .ok (.iaload, 1)) (hin : vp_in i ζ.1) (kk : X0 ζ d μ (pc + 1) lv (.int (ζ.2 i.toNatClampNeg) :: st) I Q) : X0 ζ d μ pc lv (.int i :: .ref 1000000 :: st) I Q := x_sld hd hin kk
theorem o_slen (hd : decode μ.2.1 pc = .ok (.arraylength, 1)) (kk : X0 ζ d μ (pc + 1) lv (.int (Int32.ofNat ζ.1) :: st) I Q) : X0 ζ d μ pc lv (.ref 1000000 :: st) I Q := x_slen hd kk
theorem o_iinc {i : Nat} {w : Int} {x v : Int32} (hd : decode μ.2.1 pc = .ok (.iinc i w, 3)) (hl : lv[i]? = some (some (.int x))) (hv : x + Int32.ofInt w = v) (hn : i < μ.2.2.1) (k : X0 ζ d μ (pc + 3) (lv.set i (some (.int v))) st I Q) : X0 ζ d μ pc lv st I Q := x_iinc hd hl hv hn k

theorem o_getI {idx ci k a : Nat} {rs : List (Option Nat)} {v : Int32} (hd : decode μ.2.1 pc = .ok (.getfield idx, 3)) (hf : sm_Fg μ.1.cls idx ci k) (hs : SH a = (0, ci, rs)) (hi : (sm_ft ci).getD k false = true) (hv : I a k = v) (kk : X0 ζ d μ (pc + 3) lv (.int v :: st) I Q) : X0 ζ d μ pc lv (.ref a :: st) I Q := x_getI hd hf (SH_lt hs (by intro h; simp at h)) hs hi (by rw [hv]; exact kk)
theorem o_getR {idx ci k a b : Nat} {rs : List (Option Nat)} (hd : decode μ.2.1 pc = .ok (.getfield idx, 3)) (hf : sm_Fg μ.1.cls idx ci k) (hs : SH a = (0, ci, rs)) (hi : (sm_ft ci).getD k false = false) (hb : rs.getD k none = some b) (kk : X0 ζ d μ (pc + 3) lv (.ref b :: st) I Q) : X0 ζ d μ pc lv (.ref a :: st) I Q := x_getR hd hf (SH_lt hs (by intro h; simp at h)) hs hi hb kk
theorem o_putI {idx ci k a : Nat} {rs : List (Option Nat)} {v : Int32} (hd : decode μ.2.1 pc = .ok (.putfield idx, 3)) (hf : sm_Fl μ.1.cls idx ci k .int false) (hs : SH a = (0, ci, rs)) (hi : (sm_ft ci).getD k false = true) (kk : X0 ζ d μ (pc + 3) lv st (up2 I a k v) Q) : X0 ζ d μ pc lv (.int v :: .ref a :: st) I Q := x_putI hd hf (fun h => by cases h) (SH_lt hs (by intro h; simp at h)) hs hi rfl rfl kk
theorem o_putZ {idx ci k a : Nat} {rs : List (Option Nat)} {v : Int32} (hd : decode μ.2.1 pc = .ok (.putfield idx, 3)) (hf : sm_Fl μ.1.cls idx ci k .boolean false) (hs : SH a = (0, ci, rs)) (hi : (sm_ft ci).getD k false = true) (hv : v = 0 ∨ v = 1) (kk : X0 ζ d μ (pc + 3) lv st (up2 I a k v) Q) : X0 ζ d μ pc lv (.int v :: .ref a :: st) I Q := x_putI hd hf (fun h => by cases h) (SH_lt hs (by intro h; simp at h)) hs hi (by rcases hv with rfl | rfl <;> rfl) (by rcases hv with rfl | rfl <;> rfl) kk
theorem o_iald {a N : Nat} {i v : Int32} {rs : List (Option Nat)} (hd : decode μ.2.1 pc = .ok (.iaload, 1)) (hs : SH a = (1, N, rs)) (hin : vp_in i N) (hv : I a i.toNatClampNeg = v) (kk : X0 ζ d μ (pc + 1) lv (.int v :: st) I Q) : X0 ζ d μ pc lv (.int i :: .ref a :: st) I Q := x_iald hd (SH_lt hs (by intro h; simp at h)) hs hin (by rw [hv]; exact kk)
theorem o_ialdN {a N i : Nat} {v : Int32} {rs : List (Option Nat)} (hd : decode μ.2.1 pc = .ok (.iaload, 1)) (hs : SH a = (1, N, rs)) (hN : N < 2 ^ 31) (hin : i < N) (hv : I a i = v) (kk : X0 ζ d μ (pc + 1) lv (.int v :: st) I Q) : X0 ζ d μ pc lv (.int (nI i) :: .ref a :: st) I Q := o_iald hd hs (vp_in_nI hin hN) (by rw [nI_clamp (by omega)]; exact hv) kk
theorem o_zaldN {a N i : Nat} {v : Int32} {rs : List (Option Nat)} (hd : decode μ.2.1 pc = .ok (.baload, 1)) (hs : SH a = (2, N, rs)) (hN : N < 2 ^ 31) (hin : i < N) (hv : I a i = v) (kk : X0 ζ d μ (pc + 1) lv (.int v :: st) I Q) : X0 ζ d μ pc lv (.int (nI i) :: .ref a :: st) I Q := x_zald hd (SH_lt hs (by intro h; simp at h)) hs (vp_in_nI hin hN) (by rw [nI_clamp (by omega), hv]; exact kk)
theorem o_baldN {a N i : Nat} {v : Int32} {rs : List (Option Nat)} (hd : decode μ.2.1 pc = .ok (.baload, 1)) (hs : SH a = (3, N, rs)) (hN : N < 2 ^ 31) (hin : i < N) (hv : I a i = v) (kk : X0 ζ d μ (pc + 1) lv (.int v :: st) I Q) : X0 ζ d μ pc lv (.int (nI i) :: .ref a :: st) I Q := x_bald hd (SH_lt hs (by intro h; simp at h)) hs (vp_in_nI hin hN) (by rw [nI_clamp (by omega), hv]; exact kk)
theorem o_aaldN {a N t b i : Nat} {rs : List (Option Nat)} (hd : decode μ.2.1 pc = .ok (.aaload, 1)) (hs : SH a = (t + 1, N, rs)) (ht : 3 ≤ t ∧ t < 6) (hN : N < 2 ^ 31) (hin : i < N) (hb : rs.getD i none = some b) (kk : X0 ζ d μ (pc + 1) lv (.ref b :: st) I Q) : X0 ζ d μ pc lv (.int (nI i) :: .ref a :: st) I Q := x_aald hd (SH_lt hs (by simp only; omega)) hs ht (vp_in_nI hin hN) (by rw [nI_clamp (by omega)]; exact hb) kk
theorem o_iastN {a N i : Nat} {v : Int32} {rs : List (Option Nat)} (hd : decode μ.2.1 pc = .ok (.iastore, 1)) (hs : SH a = (1, N, rs)) (hN : N < 2 ^ 31) (hin : i < N) (kk : X0 ζ d μ (pc + 1) lv st (up2 I a i v) Q) : X0 ζ d μ pc lv (.int v :: .int (nI i) :: .ref a :: st) I Q := x_iast hd (SH_lt hs (by intro h; simp at h)) hs (vp_in_nI hin hN) (by rw [nI_clamp (by omega)]; exact kk)
theorem o_bastN {a N i : Nat} {v w : Int32} {rs : List (Option Nat)} (hd : decode μ.2.1 pc = .ok (.bastore, 1)) (hs : SH a = (3, N, rs)) (hN : N < 2 ^ 31) (hin : i < N) (hw : narrow .byte (.int v) = .int w) (kk : X0 ζ d μ (pc + 1) lv st (up2 I a i w) Q) : X0 ζ d μ pc lv (.int v :: .int (nI i) :: .ref a :: st) I Q := x_bast hd (SH_lt hs (by intro h; simp at h)) hs (vp_in_nI hin hN) hw (by rw [nI_clamp (by omega)]; exact kk)
theorem o_zastN {a N i : Nat} {v : Int32} {rs : List (Option Nat)} (hd : decode μ.2.1 pc = .ok (.bastore, 1)) (hs : SH a = (2, N, rs)) (hN : N < 2 ^ 31) (hin : i < N) (hv : v = 0 ∨ v = 1) (kk : X0 ζ d μ (pc + 1) lv st (up2 I a i v) Q) : X0 ζ d μ pc lv (.int v :: .int (nI i) :: .ref a :: st) I Q := x_zast (w := v) hd (SH_lt hs (by intro h; simp at h)) hs (vp_in_nI hin hN) (by rcases hv with rfl | rfl <;> rfl) (by rw [nI_clamp (by omega)]; exact kk)
theorem o_alen {a N t : Nat} {rs : List (Option Nat)} (hd : decode μ.2.1 pc = .ok (.arraylength, 1)) (hs : SH a = (t + 1, N, rs)) (ht : t < 3) (kk : X0 ζ d μ (pc + 1) lv (.int (nI N) :: st) I Q) : X0 ζ d μ pc lv (.ref a :: st) I Q := x_alen hd (SH_lt hs (by simp only; omega)) hs ht kk
theorem o_callV {idx d' a ci : Nat} {μ' : sm_Mu} {as stk : List Value} {Q' : Option Value → sm_I → Prop} {rs : List (Option Nat)} {K : vw_C} (hd : decode μ.2.1 pc = .ok (.invokevirtual idx, 3)) (hE : E0 d' μ' (.ref a :: as) I Q') (hstk : stk = as.reverse ++ .ref a :: st) (hm : sm_Me μ' as.length) (hin : Cond.instanceMethod μ'.1 ∈ lw_good) (hsel : Cond.selects μ'.1.cls μ'.1 μ'.1 ∈ lw_good) (hl : Cond.methodLink μ.1.cls idx μ'.1 ∈ lw_good) (hs : SH a = (0, ci, rs)) (hc : vwCl[ci]? = some K) (hK : K.1 = μ'.1.cls) (hdd : d' < d) (hml : μ'.2.2.1 ≤ 21) (hst : (st.map fun v => v.category).sum ≤ 8)
    (kk : ∀ r I', Q' r I' → X0 ζ d μ (pc + 3) lv (r.toList ++ st) I' Q) : X0 ζ d μ pc lv stk I Q := x_callV hd hE hstk hm hin hsel hl (SH_lt hs (by intro h; simp at h)) hs hc hK ⟨hdd, by show 8 + (μ'.2.2.1 + 11) + 40 * d' ≤ 40 * d; omega⟩ ⟨Nat.le_refl _, Nat.le_refl _⟩ hst (fun r n' sh' I' h => by obtain ⟨rfl, rfl, h⟩ := h; exact kk r I' h)
theorem o_callS {idx d' : Nat} {μ' : sm_Mu} {as stk : List Value} {Q' : Option Value → sm_I → Prop} (hd : decode μ.2.1 pc = .ok (.invokestatic idx, 3)) (hE : E0 d' μ' as I Q') (hstk : stk = as.reverse ++ st) (hm : sm_Me μ' as.length) (hstt : Cond.static μ'.1 ∈ lw_good) (hl : Cond.methodLink μ.1.cls idx μ'.1 ∈ lw_good) (hdd : d' < d) (hml : μ'.2.2.1 ≤ 21) (hst : (st.map fun v => v.category).sum ≤ 8)
    (kk : ∀ r I', Q' r I' → X0 ζ d μ (pc + 3) lv (r.toList ++ st) I' Q) : X0 ζ d μ pc lv stk I Q := x_callS hd hE hstk hm hstt hl ⟨hdd, by show 8 + (μ'.2.2.1 + 11) + 40 * d' ≤ 40 * d; omega⟩ ⟨Nat.le_refl _, Nat.le_refl _⟩ hst (fun r n' sh' I' h => by obtain ⟨rfl, rfl, h⟩ := h; exact kk r I' h)
-- ints known as naturals
theorem o_iaddN {x y : Nat} (hd : decode μ.2.1 pc = .ok (.iadd, 1)) (k : X0 ζ d μ (pc + 1) lv (.int (nI (x + y)) :: st) I Q) : X0 ζ d μ pc lv (.int (nI y) :: .int (nI x) :: st) I Q := o_iadd hd (by rw [nI_add]; exact k)
theorem o_imulN {x y : Nat} (hd : decode μ.2.1 pc = .ok (.imul, 1)) (k : X0 ζ d μ (pc + 1) lv (.int (nI (x * y)) :: st) I Q) : X0 ζ d μ pc lv (.int (nI y) :: .int (nI x) :: st) I Q := o_imul hd (by rw [pk_mul]; exact k)
theorem o_isubN {x y : Nat} (hd : decode μ.2.1 pc = .ok (.isub, 1)) (h : y ≤ x) (k : X0 ζ d μ (pc + 1) lv (.int (nI (x - y)) :: st) I Q) : X0 ζ d μ pc lv (.int (nI y) :: .int (nI x) :: st) I Q := o_isub hd (by rw [pk_sub h]; exact k)
theorem o_idivN {x y : Nat} (hd : decode μ.2.1 pc = .ok (.idiv, 1)) (hx : x < 2 ^ 31) (h0 : 0 < y) (hy : y < 2 ^ 31) (k : X0 ζ d μ (pc + 1) lv (.int (nI (x / y)) :: st) I Q) : X0 ζ d μ pc lv (.int (nI y) :: .int (nI x) :: st) I Q := o_idiv hd (nI_ne0 h0 hy) (by rw [pk_div hx h0 hy]; exact k)
theorem o_iremN {x y : Nat} (hd : decode μ.2.1 pc = .ok (.irem, 1)) (hx : x < 2 ^ 31) (h0 : 0 < y) (hy : y < 2 ^ 31) (k : X0 ζ d μ (pc + 1) lv (.int (nI (x % y)) :: st) I Q) : X0 ζ d μ pc lv (.int (nI y) :: .int (nI x) :: st) I Q := o_irem hd (nI_ne0 h0 hy) (by rw [pk_rem hx h0 hy]; exact k)
theorem o_iincN {i x w : Nat} {wi : Int} (hd : decode μ.2.1 pc = .ok (.iinc i wi, 3)) (hl : lv[i]? = some (some (.int (nI x)))) (hw : Int32.ofInt wi = nI w) (hn : i < μ.2.2.1) (k : X0 ζ d μ (pc + 3) (lv.set i (some (.int (nI (x + w))))) st I Q) : X0 ζ d μ pc lv st I Q := o_iinc (v := nI (x + w)) hd hl (by rw [hw, nI_add]) hn k
theorem o_icmpN_lt {x y : Nat} {off : Int} {tgt : Nat} (hd : decode μ.2.1 pc = .ok (.if_icmp .lt off, 3)) (ht : (pc : Int) + off = (tgt : Int)) (hx : x < 2 ^ 31) (hy : y < 2 ^ 31) (kt : x < y → X0 ζ d μ tgt lv st I Q) (kf : y ≤ x → X0 ζ d μ (pc + 3) lv st I Q) : X0 ζ d μ pc lv (.int (nI y) :: .int (nI x) :: st) I Q := o_icmp_lt hd ht (fun h => kt ((nI_ltI hx hy).mp h)) (fun h => kf (Nat.not_lt.mp fun q => h ((nI_ltI hx hy).mpr q)))
theorem o_icmpN_ge {x y : Nat} {off : Int} {tgt : Nat} (hd : decode μ.2.1 pc = .ok (.if_icmp .ge off, 3)) (ht : (pc : Int) + off = (tgt : Int)) (hx : x < 2 ^ 31) (hy : y < 2 ^ 31) (kt : y ≤ x → X0 ζ d μ tgt lv st I Q) (kf : x < y → X0 ζ d μ (pc + 3) lv st I Q) : X0 ζ d μ pc lv (.int (nI y) :: .int (nI x) :: st) I Q := o_icmp_ge hd ht (fun h => kt ((nI_leI hy hx).mp h)) (fun h => kf (Nat.not_le.mp fun q => h ((nI_leI hy hx).mpr q)))
theorem o_icmpN_gt {x y : Nat} {off : Int} {tgt : Nat} (hd : decode μ.2.1 pc = .ok (.if_icmp .gt off, 3)) (ht : (pc : Int) + off = (tgt : Int)) (hx : x < 2 ^ 31) (hy : y < 2 ^ 31) (kt : y < x → X0 ζ d μ tgt lv st I Q) (kf : x ≤ y → X0 ζ d μ (pc + 3) lv st I Q) : X0 ζ d μ pc lv (.int (nI y) :: .int (nI x) :: st) I Q := o_icmp_gt hd ht (fun h => kt ((nI_ltI hy hx).mp h)) (fun h => kf (Nat.not_lt.mp fun q => h ((nI_ltI hy hx).mpr q)))
theorem o_icmpN_le {x y : Nat} {off : Int} {tgt : Nat} (hd : decode μ.2.1 pc = .ok (.if_icmp .le off, 3)) (ht : (pc : Int) + off = (tgt : Int)) (hx : x < 2 ^ 31) (hy : y < 2 ^ 31) (kt : x ≤ y → X0 ζ d μ tgt lv st I Q) (kf : y < x → X0 ζ d μ (pc + 3) lv st I Q) : X0 ζ d μ pc lv (.int (nI y) :: .int (nI x) :: st) I Q := o_icmp_le hd ht (fun h => kt ((nI_leI hx hy).mp h)) (fun h => kf (Nat.not_le.mp fun q => h ((nI_leI hx hy).mpr q)))
theorem o_icmpN_eq {x y : Nat} {off : Int} {tgt : Nat} (hd : decode μ.2.1 pc = .ok (.if_icmp .eq off, 3)) (ht : (pc : Int) + off = (tgt : Int)) (hx : x < 2 ^ 31) (hy : y < 2 ^ 31) (kt : x = y → X0 ζ d μ tgt lv st I Q) (kf : ¬ x = y → X0 ζ d μ (pc + 3) lv st I Q) : X0 ζ d μ pc lv (.int (nI y) :: .int (nI x) :: st) I Q := o_icmp_eq hd ht (fun h => kt ((nI_eq hx hy).mp h)) (fun h => kf (fun q => h ((nI_eq hx hy).mpr q)))
theorem o_icmpN_ne {x y : Nat} {off : Int} {tgt : Nat} (hd : decode μ.2.1 pc = .ok (.if_icmp .ne off, 3)) (ht : (pc : Int) + off = (tgt : Int)) (hx : x < 2 ^ 31) (hy : y < 2 ^ 31) (kt : ¬ x = y → X0 ζ d μ tgt lv st I Q) (kf : x = y → X0 ζ d μ (pc + 3) lv st I Q) : X0 ζ d μ pc lv (.int (nI y) :: .int (nI x) :: st) I Q := o_icmp_ne hd ht (fun h => kt (fun q => h ((nI_eq hx hy).mpr q))) (fun h => kf ((nI_eq hx hy).mp h))
theorem o_ifN_eq {x : Nat} {off : Int} {tgt : Nat} (hd : decode μ.2.1 pc = .ok (.ifCond .eq off, 3)) (ht : (pc : Int) + off = (tgt : Int)) (hx : x < 2 ^ 31) (kt : x = 0 → X0 ζ d μ tgt lv st I Q) (kf : 0 < x → X0 ζ d μ (pc + 3) lv st I Q) : X0 ζ d μ pc lv (.int (nI x) :: st) I Q := o_if_eq hd ht (fun h => kt ((nI_eq (b := 0) hx (by decide)).mp h)) (fun h => kf (Nat.pos_of_ne_zero fun q => h (by rw [q]; exact nI_0)))
theorem o_ifN_ne {x : Nat} {off : Int} {tgt : Nat} (hd : decode μ.2.1 pc = .ok (.ifCond .ne off, 3)) (ht : (pc : Int) + off = (tgt : Int)) (hx : x < 2 ^ 31) (kt : 0 < x → X0 ζ d μ tgt lv st I Q) (kf : x = 0 → X0 ζ d μ (pc + 3) lv st I Q) : X0 ζ d μ pc lv (.int (nI x) :: st) I Q := o_if_ne hd ht (fun h => kt (Nat.pos_of_ne_zero fun q => h (by rw [q]; exact nI_0))) (fun h => kf (Classical.byContradiction fun q => nI_ne0 (Nat.pos_of_ne_zero q) hx h))
theorem o_ifN_le {x : Nat} {off : Int} {tgt : Nat} (hd : decode μ.2.1 pc = .ok (.ifCond .le off, 3)) (ht : (pc : Int) + off = (tgt : Int)) (hx : x < 2 ^ 31) (kt : x = 0 → X0 ζ d μ tgt lv st I Q) (kf : 0 < x → X0 ζ d μ (pc + 3) lv st I Q) : X0 ζ d μ pc lv (.int (nI x) :: st) I Q := o_if_le hd ht (fun h => kt (Classical.byContradiction fun q => nI_nle (Nat.pos_of_ne_zero q) hx h)) (fun h => kf (Nat.pos_of_ne_zero fun q => h (by rw [q]; decide)))
theorem o_ifN_lt {x : Nat} {off : Int} {tgt : Nat} (hd : decode μ.2.1 pc = .ok (.ifCond .lt off, 3)) (ht : (pc : Int) + off = (tgt : Int)) (hx : x < 2 ^ 31) (kf : X0 ζ d μ (pc + 3) lv st I Q) : X0 ζ d μ pc lv (.int (nI x) :: st) I Q := o_if_lt hd ht (fun h => absurd h (nI_pos hx)) (fun _ => kf)
theorem o_ifN_ge {x : Nat} {off : Int} {tgt : Nat} (hd : decode μ.2.1 pc = .ok (.ifCond .ge off, 3)) (ht : (pc : Int) + off = (tgt : Int)) (hx : x < 2 ^ 31) (kt : X0 ζ d μ tgt lv st I Q) : X0 ζ d μ pc lv (.int (nI x) :: st) I Q := o_if_ge hd ht (fun _ => kt) (fun h => absurd (nI_pos' hx) h)
end O0
end
section
theorem up2_x {I : sm_I} {a k b j : Nat} {v : Int32} (h : ¬ (b = a ∧ j = k)) : up2 I a k v b j = I b j := by simp only [up2, if_neg h]
theorem in_nat {x : Int32} {a b : Nat} (ha : a < 2 ^ 31) (hb : b < 2 ^ 31) (h1 : nI a ≤ x) (h2 : x ≤ nI b) : ∃ j : Nat, a ≤ j ∧ j ≤ b ∧ x = nI j := by
  have e1 := Int32.le_iff_toInt_le.mp h1
  have e2 := Int32.le_iff_toInt_le.mp h2
  rw [nI_toInt ha] at e1
  rw [nI_toInt hb] at e2
  have h0 : ¬ x < 0 := fun q => by
    have := Int32.lt_iff_toInt_lt.mp q
    rw [Int32.toInt_zero] at this
    omega
  obtain ⟨j, hj, rfl⟩ := nI_of h0
  rw [nI_toInt hj] at e1 e2
  exact ⟨j, by omega, by omega, rfl⟩
theorem nI_nle' {a b : Nat} (ha : a < 2 ^ 31) (hb : b < 2 ^ 31) : ¬ nI a ≤ nI b ↔ b < a := by rw [nI_leI ha hb]; omega
theorem nI_nlt' {a b : Nat} (ha : a < 2 ^ 31) (hb : b < 2 ^ 31) : ¬ nI a < nI b ↔ b ≤ a := by rw [nI_ltI ha hb]; omega
theorem i32_nle {x y : Int32} (h : ¬ x ≤ y) : y < x := Int32.not_le.mp h
theorem i32_nlt {x y : Int32} (h : ¬ x < y) : y ≤ x := Int32.not_lt.mp h
end
section
/-! ===== what casks are, in naturals ===== -/
def cg_sum (f : Nat → Nat) : Nat → Nat
  | 0 => 0
  | n + 1 => cg_sum f n + f n
def cg_dist (a b : Nat) : Nat := (a - b) + (b - a)
def cg_rad (S H B i : Nat) : Nat := B - (B - H) * cg_dist (2 * i + 1) S * cg_dist (2 * i + 1) S / (S * S)
def cg_wl (m : Nat) : Nat → Nat → Nat
  | 0, w => w
  | f + 1, w => if 4 * (w + 1) * (w + 1) ≤ m then cg_wl m f (w + 1) else w
def cg_room (r j B : Nat) : Nat := 2 * r * (2 * r) - cg_dist (2 * j + 1) (2 * B) * cg_dist (2 * j + 1) (2 * B)
def cg_cell (S H B i j : Nat) : Nat := 2 * cg_wl (cg_room (cg_rad S H B i) j B) 21 0
def cg_row (S H B l y : Nat) : Nat := if l = 1 then cg_sum (fun k => cg_cell S H B k y) S else cg_sum (fun k => cg_cell S H B y k) (2 * B)
def cg_U (S H B l y : Nat) : Nat := cg_sum (cg_row S H B l) y
def cg_top (S B l : Nat) : Nat := if l = 1 then 2 * B else S
def cg_hold (S H B l : Nat) : Nat := cg_U S H B l (cg_top S B l)
theorem cg_sum_le {f : Nat → Nat} {b : Nat} : ∀ n, (∀ k, k < n → f k ≤ b) → cg_sum f n ≤ n * b
  | 0, _ => by simp [cg_sum]
  | n + 1, h => by
    have h1 := cg_sum_le n (fun k hk => h k (by omega))
    have h2 := h n (by omega)
    rw [cg_sum, Nat.succ_mul]
    omega
theorem cg_sum_congr {f g : Nat → Nat} : ∀ n, (∀ k, k < n → f k = g k) → cg_sum f n = cg_sum g n
  | 0, _ => rfl
  | n + 1, h => by rw [cg_sum, cg_sum, cg_sum_congr n (fun k hk => h k (by omega)), h n (by omega)]
theorem cg_sum_add (f g : Nat → Nat) : ∀ n, cg_sum (fun k => f k + g k) n = cg_sum f n + cg_sum g n
  | 0 => rfl
  | n + 1 => by simp only [cg_sum]; rw [cg_sum_add f g n]; omega
theorem cg_sum_zero : ∀ n, cg_sum (fun _ => 0) n = 0
  | 0 => rfl
  | n + 1 => by rw [cg_sum, cg_sum_zero n]
theorem cg_sum_swap (f : Nat → Nat → Nat) (n : Nat) : ∀ m, cg_sum (fun i => cg_sum (f i) n) m = cg_sum (fun j => cg_sum (fun i => f i j) m) n
  | 0 => (cg_sum_zero n).symm
  | m + 1 => by rw [cg_sum, cg_sum_swap f n m, ← cg_sum_add]; rfl
theorem cg_sum_mono (f : Nat → Nat) {a : Nat} : ∀ b, a ≤ b → cg_sum f a ≤ cg_sum f b
  | 0, h => by rw [Nat.le_zero.mp h]; exact Nat.le_refl _
  | b + 1, h => by
    rcases Nat.lt_or_ge a (b + 1) with h1 | h1
    · exact Nat.le_trans (cg_sum_mono f b (by omega)) (Nat.le_add_right _ _)
    · rw [show a = b + 1 by omega]; exact Nat.le_refl _
theorem cg_wl_le (m : Nat) : ∀ f w, cg_wl m f w ≤ w + f
  | 0, w => Nat.le_refl _
  | f + 1, w => by
    rw [cg_wl]
    split
    · have := cg_wl_le m f (w + 1); omega
    · omega
theorem cg_cell_le (S H B i j : Nat) : cg_cell S H B i j ≤ 42 := by
  have := cg_wl_le (cg_room (cg_rad S H B i) j B) 21 0
  unfold cg_cell
  omega
theorem cg_row_le {S H B l y : Nat} (hS : S ≤ 12) (hB : B ≤ 20) : cg_row S H B l y ≤ 1680 := by
  unfold cg_row
  split
  · have := cg_sum_le (f := fun k => cg_cell S H B k y) S (fun k _ => cg_cell_le S H B k y); omega
  · have := cg_sum_le (f := fun k => cg_cell S H B y k) (2 * B) (fun k _ => cg_cell_le S H B y k); omega
theorem cg_top_le {S B l : Nat} (hS : S ≤ 12) (hB : B ≤ 20) : cg_top S B l ≤ 40 := by unfold cg_top; split <;> omega
theorem cg_U_le {S H B l y : Nat} (hS : S ≤ 12) (hB : B ≤ 20) (hy : y ≤ 40) : cg_U S H B l y ≤ 67200 := by
  have := cg_sum_le (f := cg_row S H B l) y (fun k _ => cg_row_le hS hB)
  unfold cg_U
  have h2 : y * 1680 ≤ 40 * 1680 := Nat.mul_le_mul_right _ hy
  omega
theorem cg_U_mono {S H B l a b : Nat} (h : a ≤ b) : cg_U S H B l a ≤ cg_U S H B l b := cg_sum_mono _ b h
theorem cg_hold_le {S H B l : Nat} (hS : S ≤ 12) (hB : B ≤ 20) : cg_hold S H B l ≤ 67200 := cg_U_le hS hB (cg_top_le hS hB)
/-- what a cask holds is one, lying or standing -/
theorem cg_hold_one (S H B : Nat) {l : Nat} (hl : l ≤ 1) : cg_hold S H B l = cg_hold S H B 1 := by
  rcases (show l = 0 ∨ l = 1 by omega) with rfl | rfl
  · show cg_sum (fun y => cg_sum (fun k => cg_cell S H B y k) (2 * B)) S = cg_sum (fun y => cg_sum (fun k => cg_cell S H B k y) S) (2 * B)
    exact cg_sum_swap (fun i j => cg_cell S H B i j) (2 * B) S
  · rfl
/-! ===== casks in a row, and where they lie ===== -/
abbrev KT : Type := Nat × (Nat → Nat → Nat)
def okc (v : Nat → Nat) : Prop := 1 ≤ v 0 ∧ v 0 ≤ 12 ∧ 1 ≤ v 1 ∧ v 1 ≤ v 2 ∧ v 2 ≤ 20 ∧ v 3 ≤ 1 ∧ v 5 ≤ v 4 ∧ v 4 ≤ cg_hold (v 0) (v 1) (v 2) 1
def okK (K : KT) : Prop := K.1 ≤ 4 ∧ ∀ c, c < K.1 → okc (K.2 c)
/-- the reference's row of a state -/
def MK (I : sm_I) (a off : Nat) (K : KT) : Prop := I a (off + 24) = nI K.1 ∧ ∀ c f, c < K.1 → f < 6 → I a (off + (6 * c + f)) = nI (K.2 c f)
/-- the class' cellar at a -/
def CK (I : sm_I) (a : Nat) (K : KT) : Prop := I a 1 = nI K.1 ∧ ∀ c f, c < K.1 → f < 6 → I (a + 2 + c) f = nI (K.2 c f)
theorem MK.at0 {I : sm_I} {a : Nat} {K : KT} (h : MK I a 0 K) {c f : Nat} (hc : c < K.1) (hf : f < 6) : I a (6 * c + f) = nI (K.2 c f) := by
  have := h.2 c f hc hf
  rw [Nat.zero_add] at this
  exact this
theorem MK.n0 {I : sm_I} {a : Nat} {K : KT} (h : MK I a 0 K) : I a 24 = nI K.1 := h.1
theorem MK.of {I I' : sm_I} {a off : Nat} {K : KT} (h : MK I a off K) (hk : ∀ k, I' a k = I a k) : MK I' a off K := ⟨by rw [hk]; exact h.1, fun c f hc hf => by rw [hk]; exact h.2 c f hc hf⟩
theorem okc.lt {v : Nat → Nat} (h : okc v) : ∀ f, f < 6 → v f < 2 ^ 31 := by
  obtain ⟨h0, h1, h2, h3, h4, h5, h6, h7⟩ := h
  have := cg_hold_le (H := v 1) (l := 1) h1 h4
  intro f hf
  rcases (show f = 0 ∨ f = 1 ∨ f = 2 ∨ f = 3 ∨ f = 4 ∨ f = 5 by omega) with rfl | rfl | rfl | rfl | rfl | rfl <;> omega
end
section
theorem nI_sub_neg {a b : Nat} (h : a ≤ b) : nI a - nI b = -nI (b - a) := by
  rw [← pk_sub h, Int32.neg_sub]
theorem nI_sub_sq (q a b : Nat) : nI q * (nI a - nI b) * (nI a - nI b) = nI (q * cg_dist a b * cg_dist a b) := by
  rcases Nat.le_total b a with h | h
  · rw [pk_sub h, pk_mul, pk_mul, show cg_dist a b = a - b by unfold cg_dist; omega]
  · rw [nI_sub_neg h, Int32.mul_assoc, Int32.neg_mul_neg, pk_mul, pk_mul, show cg_dist a b = b - a by unfold cg_dist; omega, Nat.mul_assoc]
theorem nI_sq (a b : Nat) : (nI a - nI b) * (nI a - nI b) = nI (cg_dist a b * cg_dist a b) := by
  rcases Nat.le_total b a with h | h
  · rw [pk_sub h, pk_mul, show cg_dist a b = a - b by unfold cg_dist; omega]
  · rw [nI_sub_neg h, Int32.neg_mul_neg, pk_mul, show cg_dist a b = b - a by unfold cg_dist; omega]
theorem cg_quot {S H B i : Nat} (hi : i < S) : (B - H) * cg_dist (2 * i + 1) S * cg_dist (2 * i + 1) S / (S * S) ≤ B - H := by
  have hd : cg_dist (2 * i + 1) S ≤ S := by unfold cg_dist; omega
  refine Nat.div_le_of_le_mul ?_
  have h1 : cg_dist (2 * i + 1) S * cg_dist (2 * i + 1) S ≤ S * S := Nat.mul_le_mul hd hd
  calc (B - H) * cg_dist (2 * i + 1) S * cg_dist (2 * i + 1) S = (B - H) * (cg_dist (2 * i + 1) S * cg_dist (2 * i + 1) S) := Nat.mul_assoc _ _ _
    _ ≤ (B - H) * (S * S) := Nat.mul_le_mul_left _ h1
    _ = S * S * (B - H) := Nat.mul_comm _ _
theorem cg_num_lt {S H B i : Nat} (hi : i < S) (hS : S ≤ 12) (hB : B ≤ 20) : (B - H) * cg_dist (2 * i + 1) S * cg_dist (2 * i + 1) S < 2 ^ 31 := by
  have hd : cg_dist (2 * i + 1) S ≤ 12 := by unfold cg_dist; omega
  have h1 : (B - H) * cg_dist (2 * i + 1) S ≤ 20 * 12 := Nat.mul_le_mul (by omega) hd
  have h2 : (B - H) * cg_dist (2 * i + 1) S * cg_dist (2 * i + 1) S ≤ 20 * 12 * 12 := Nat.mul_le_mul h1 hd
  omega
theorem cg_SS {S : Nat} (h1 : 1 ≤ S) (h2 : S ≤ 12) : 0 < S * S ∧ S * S < 2 ^ 31 := ⟨Nat.mul_pos h1 h1, by have := Nat.mul_le_mul h2 h2; omega⟩
theorem rad_eq {S H B i : Nat} (h1 : 1 ≤ S) (hS : S ≤ 12) (hB : B ≤ 20) (hi : i < S) : nI B - nI (B - H) * (nI (2 * i + 1) - nI S) * (nI (2 * i + 1) - nI S) / nI (S * S) = nI (cg_rad S H B i) := by
  have hq := cg_quot (H := H) (B := B) hi
  rw [nI_sub_sq, pk_div (cg_num_lt hi hS hB) (cg_SS h1 hS).1 (cg_SS h1 hS).2, pk_sub (by omega)]
  rfl
theorem cg_rad_le {S H B i : Nat} : cg_rad S H B i ≤ B := Nat.sub_le _ _
theorem cg_up_le {B j : Nat} (hj : j < 2 * B) (hB : B ≤ 20) : cg_dist (2 * j + 1) (2 * B) ≤ 40 := by unfold cg_dist; omega
theorem cg_sq_lt {x : Nat} (h : x ≤ 40) : x * x ≤ 1600 := by have := Nat.mul_le_mul h h; omega
theorem cg_wl_0 {f : Nat} : cg_wl 0 f 0 = 0 := by
  cases f with
  | zero => rfl
  | succ f => rw [cg_wl, if_neg (by omega)]
theorem cg_sq4 {w : Nat} (h : 4 * w * w ≤ 1600) : w ≤ 20 := by
  rcases Nat.lt_or_ge 20 w with h1 | h1
  · have := Nat.mul_le_mul (Nat.mul_le_mul_left 4 h1) h1
    omega
  · exact h1
end
section
set_option maxHeartbeats 4000000 in
set_option maxRecDepth 100000 in
theorem c_in (I : sm_I) (v lo hi : Int32) : E0 0 mX9_in [.int v, .int lo, .int hi] I (fun r I' => I' = I ∧ ((lo ≤ v ∧ v ≤ hi ∧ r = some (.int (nI 1))) ∨ (¬ (lo ≤ v ∧ v ≤ hi) ∧ r = some (.int (nI 0))))) := by
  refine E0.of (by decide) (by simp [Value.category]) (Nat.le_of_ble_eq_true rfl) (fun ζ => ?_)
  refine o_iload_n dX9_in_0 rfl rfl ?_
  refine o_iload_n dX9_in_1 rfl rfl ?_
  refine o_icmp_lt (tgt := 14) dX9_in_2 (by decide) (fun b_1 => ?_) (fun b_1 => ?_)
  · refine o_iconst (v := nI 0) dX9_in_14 (by decide) ?_
    exact o_zret dX9_in_15 rfl (by decide) ⟨rfl, Or.inr ⟨fun q => absurd q.1 (Int32.not_le.mpr b_1), rfl⟩⟩
  · refine o_iload_n dX9_in_5 rfl rfl ?_
    refine o_iload_n dX9_in_6 rfl rfl ?_
    refine o_icmp_gt (tgt := 14) dX9_in_7 (by decide) (fun b_2 => ?_) (fun b_2 => ?_)
    · refine o_iconst (v := nI 0) dX9_in_14 (by decide) ?_
      exact o_zret dX9_in_15 rfl (by decide) ⟨rfl, Or.inr ⟨fun q => absurd q.2 (Int32.not_le.mpr b_2), rfl⟩⟩
    · refine o_iconst (v := nI 1) dX9_in_10 (by decide) ?_
      refine o_goto (tgt := 15) dX9_in_11 (by decide) ?_
      exact o_zret dX9_in_15 rfl (by decide) ⟨rfl, Or.inl ⟨i32_nlt b_1, i32_nlt b_2, rfl⟩⟩

set_option maxHeartbeats 4000000 in
set_option maxRecDepth 100000 in
theorem c_of (I : sm_I) (c w : Nat) (h : 6 * c + w < 25) : E0 0 mX9_of [.ref 106, .int (nI c), .int (nI w)] I (fun r I' => I' = I ∧ r = some (.int (I 107 (6 * c + w)))) := by
  refine E0.of (by decide) (by simp [Value.category]) (Nat.le_of_ble_eq_true rfl) (fun ζ => ?_)
  refine o_aload_n dX9_of_0 rfl rfl ?_
  refine o_getR (b := 107) dX9_of_1 fgX9_7 sh_106 rfl rfl ?_
  refine o_bipush (v := nI 6) dX9_of_4 (by decide) ?_
  refine o_iload_n dX9_of_6 rfl rfl ?_
  refine o_imulN dX9_of_7 ?_
  refine o_iload_n dX9_of_8 rfl rfl ?_
  refine o_iaddN dX9_of_9 ?_
  refine o_ialdN (v := I 107 ((6 * c) + w)) dX9_of_10 sh_107 (by decide) h rfl ?_
  exact o_iret dX9_of_11 rfl ⟨rfl, rfl⟩

theorem c_ofK {I : sm_I} {K : KT} (hK : MK I 107 0 K) (hn : K.1 ≤ 4) {c w : Nat} (hc : c < K.1) (hw : w < 6) : E0 0 mX9_of [.ref 106, .int (nI c), .int (nI w)] I (fun r I' => I' = I ∧ r = some (.int (nI (K.2 c w)))) := by
  rw [← hK.at0 hc hw]
  exact c_of I c w (by omega)

set_option maxHeartbeats 4000000 in
set_option maxRecDepth 100000 in
theorem c_radius {I : sm_I} {K : KT} (hK : MK I 107 0 K) (hok : okK K) {c i : Nat} (hc : c < K.1) (hi : i < K.2 c 0) : E0 1 mX9_radius [.ref 106, .int (nI c), .int (nI i)] I (fun r I' => I' = I ∧ r = some (.int (nI (cg_rad (K.2 c 0) (K.2 c 1) (K.2 c 2) i)))) := by
  have hn := hok.1
  obtain ⟨q0, q1, q2, q3, q4, q5, q6, q7⟩ := hok.2 c hc
  refine E0.of (by decide) (by simp [Value.category]) (Nat.le_of_ble_eq_true rfl) (fun ζ => ?_)
  refine o_aload_n dX9_radius_0 rfl rfl ?_
  refine o_iload_n dX9_radius_1 rfl rfl ?_
  refine o_iconst (v := nI 0) dX9_radius_2 (by decide) ?_
  refine o_callV (as := [.int (nI c), .int (nI 0)]) (st := []) dX9_radius_3 (c_ofK hK hn hc (by decide)) rfl meX9_of imX9_of seX9_of mlX9_103 sh_106 rfl rfl (by omega) (by decide) (Nat.le_of_ble_eq_true rfl) ?_
  rintro _ _ ⟨rfl, rfl⟩
  refine o_istore_n dX9_radius_6 rfl (by decide) ?_
  refine o_iconst (v := nI 2) dX9_radius_7 (by decide) ?_
  refine o_iload_n dX9_radius_8 rfl rfl ?_
  refine o_imulN dX9_radius_9 ?_
  refine o_iconst (v := nI 1) dX9_radius_10 (by decide) ?_
  refine o_iaddN dX9_radius_11 ?_
  refine o_iload_n dX9_radius_12 rfl rfl ?_
  refine o_isub dX9_radius_13 ?_
  refine o_istore dX9_radius_14 (by decide) ?_
  refine o_aload_n dX9_radius_16 rfl rfl ?_
  refine o_iload_n dX9_radius_17 rfl rfl ?_
  refine o_iconst (v := nI 2) dX9_radius_18 (by decide) ?_
  refine o_callV (as := [.int (nI c), .int (nI 2)]) (st := []) dX9_radius_19 (c_ofK hK hn hc (by decide)) rfl meX9_of imX9_of seX9_of mlX9_103 sh_106 rfl rfl (by omega) (by decide) (Nat.le_of_ble_eq_true rfl) ?_
  rintro _ _ ⟨rfl, rfl⟩
  refine o_aload_n dX9_radius_22 rfl rfl ?_
  refine o_iload_n dX9_radius_23 rfl rfl ?_
  refine o_iconst (v := nI 2) dX9_radius_24 (by decide) ?_
  refine o_callV (as := [.int (nI c), .int (nI 2)]) (st := [.int (nI (K.2 c 2))]) dX9_radius_25 (c_ofK hK hn hc (by decide)) rfl meX9_of imX9_of seX9_of mlX9_103 sh_106 rfl rfl (by omega) (by decide) (Nat.le_of_ble_eq_true rfl) ?_
  rintro _ _ ⟨rfl, rfl⟩
  refine o_aload_n dX9_radius_28 rfl rfl ?_
  refine o_iload_n dX9_radius_29 rfl rfl ?_
  refine o_iconst (v := nI 1) dX9_radius_30 (by decide) ?_
  refine o_callV (as := [.int (nI c), .int (nI 1)]) (st := [.int (nI (K.2 c 2)), .int (nI (K.2 c 2))]) dX9_radius_31 (c_ofK hK hn hc (by decide)) rfl meX9_of imX9_of seX9_of mlX9_103 sh_106 rfl rfl (by omega) (by decide) (Nat.le_of_ble_eq_true rfl) ?_
  rintro _ _ ⟨rfl, rfl⟩
  refine o_isubN dX9_radius_34 (by omega) ?_
  refine o_iload dX9_radius_35 rfl ?_
  refine o_imul dX9_radius_37 ?_
  refine o_iload dX9_radius_38 rfl ?_
  refine o_imul dX9_radius_40 ?_
  refine o_iload_n dX9_radius_41 rfl rfl ?_
  refine o_iload_n dX9_radius_42 rfl rfl ?_
  refine o_imulN dX9_radius_43 ?_
  refine o_idiv dX9_radius_44 (nI_ne0 (cg_SS q0 q1).1 (cg_SS q0 q1).2) ?_
  refine o_isub dX9_radius_45 ?_
  exact o_iret dX9_radius_46 rfl ⟨rfl, by rw [rad_eq q0 q1 q4 hi]⟩

theorem lp_cellsOf {ζ : sm_Z} {d : Nat} {I : sm_I} {Q : Option Value → sm_I → Prop} {a0 a1 a2 a3 a4 a5 : Option Value} {m : Nat} (hm : m ≤ 1600) (hq : Q (some (.int (nI (2 * cg_wl m 21 0)))) I) : ∀ f w : Nat, w + f = 21 → cg_wl m f w = cg_wl m 21 0 → (w = 0 ∨ 4 * w * w ≤ m) → X0 ζ d mX9_cellsOf 42 [a0, a1, a2, a3, a4, a5, some (.int (nI m)), some (.int (nI w))] [] I Q := by
  intro f
  induction f with
  | zero =>
    intro w hw he hb
    exfalso
    have h21 : w = 21 := by omega
    subst h21
    omega
  | succ f ih =>
    intro w hw he hb
    rw [cg_wl] at he
    have hb2 : 4 * (w + 1) * (w + 1) ≤ 4 * 21 * 21 := Nat.mul_le_mul (Nat.mul_le_mul_left 4 (by omega)) (by omega)
    refine o_iload dX9_cellsOf_42 rfl ?_
    refine o_ifN_lt (tgt := 69) dX9_cellsOf_44 (by decide) (by omega) ?_
    refine o_iconst (v := nI 4) dX9_cellsOf_47 (by decide) ?_
    refine o_iload dX9_cellsOf_48 rfl ?_
    refine o_iconst (v := nI 1) dX9_cellsOf_50 (by decide) ?_
    refine o_iaddN dX9_cellsOf_51 ?_
    refine o_imulN dX9_cellsOf_52 ?_
    refine o_iload dX9_cellsOf_53 rfl ?_
    refine o_iconst (v := nI 1) dX9_cellsOf_55 (by decide) ?_
    refine o_iaddN dX9_cellsOf_56 ?_
    refine o_imulN dX9_cellsOf_57 ?_
    refine o_iload dX9_cellsOf_58 rfl ?_
    refine o_icmpN_gt (tgt := 69) dX9_cellsOf_60 (by decide) (by omega) (by omega) (fun b_4 => ?_) (fun b_4 => ?_)
    · refine o_iconst (v := nI 2) dX9_cellsOf_69 (by decide) ?_
      refine o_iload dX9_cellsOf_70 rfl ?_
      refine o_imulN dX9_cellsOf_72 ?_
      exact o_iret dX9_cellsOf_73 rfl (by rw [if_neg (by omega)] at he; rw [he]; exact hq)
    · refine o_iincN (w := 1) dX9_cellsOf_63 rfl (by decide) (by decide) ?_
      refine o_goto (tgt := 42) dX9_cellsOf_66 (by decide) ?_
      exact ih (w + 1) (by omega) (by rw [if_pos (by omega)] at he; exact he) (Or.inr (by omega))

set_option maxHeartbeats 4000000 in
set_option maxRecDepth 100000 in
theorem c_cellsOf {I : sm_I} {K : KT} (hK : MK I 107 0 K) (hok : okK K) {c i j : Nat} (hc : c < K.1) (hi : i < K.2 c 0) (hj : j < 2 * K.2 c 2) : E0 2 mX9_cellsOf [.ref 106, .int (nI c), .int (nI i), .int (nI j)] I (fun r I' => I' = I ∧ r = some (.int (nI (cg_cell (K.2 c 0) (K.2 c 1) (K.2 c 2) i j)))) := by
  have hn := hok.1
  obtain ⟨q0, q1, q2, q3, q4, q5, q6, q7⟩ := hok.2 c hc
  refine E0.of (by decide) (by simp [Value.category]) (Nat.le_of_ble_eq_true rfl) (fun ζ => ?_)
  refine o_iconst (v := nI 2) dX9_cellsOf_0 (by decide) ?_
  refine o_aload_n dX9_cellsOf_1 rfl rfl ?_
  refine o_iload_n dX9_cellsOf_2 rfl rfl ?_
  refine o_iload_n dX9_cellsOf_3 rfl rfl ?_
  refine o_callV (as := [.int (nI c), .int (nI i)]) (st := [.int (nI 2)]) dX9_cellsOf_4 (c_radius hK hok hc hi) rfl meX9_radius imX9_radius seX9_radius mlX9_106 sh_106 rfl rfl (by omega) (by decide) (Nat.le_of_ble_eq_true rfl) ?_
  rintro _ _ ⟨rfl, rfl⟩
  refine o_imulN dX9_cellsOf_7 ?_
  refine o_istore dX9_cellsOf_8 (by decide) ?_
  refine o_iconst (v := nI 2) dX9_cellsOf_10 (by decide) ?_
  refine o_iload_n dX9_cellsOf_11 rfl rfl ?_
  refine o_imulN dX9_cellsOf_12 ?_
  refine o_iconst (v := nI 1) dX9_cellsOf_13 (by decide) ?_
  refine o_iaddN dX9_cellsOf_14 ?_
  refine o_iconst (v := nI 2) dX9_cellsOf_15 (by decide) ?_
  refine o_aload_n dX9_cellsOf_16 rfl rfl ?_
  refine o_iload_n dX9_cellsOf_17 rfl rfl ?_
  refine o_iconst (v := nI 2) dX9_cellsOf_18 (by decide) ?_
  refine o_callV (as := [.int (nI c), .int (nI 2)]) (st := [.int (nI 2), .int (nI ((2 * j) + 1))]) dX9_cellsOf_19 (c_ofK hK hn hc (by decide)) rfl meX9_of imX9_of seX9_of mlX9_103 sh_106 rfl rfl (by omega) (by decide) (Nat.le_of_ble_eq_true rfl) ?_
  rintro _ _ ⟨rfl, rfl⟩
  refine o_imulN dX9_cellsOf_22 ?_
  refine o_isub dX9_cellsOf_23 ?_
  refine o_istore dX9_cellsOf_24 (by decide) ?_
  refine o_iload dX9_cellsOf_26 rfl ?_
  refine o_iload dX9_cellsOf_28 rfl ?_
  refine o_imulN dX9_cellsOf_30 ?_
  refine o_iload dX9_cellsOf_31 rfl ?_
  refine o_iload dX9_cellsOf_33 rfl ?_
  refine o_imul dX9_cellsOf_35 ?_
  rw [nI_sq]
  refine o_isub dX9_cellsOf_36 ?_
  refine o_istore dX9_cellsOf_37 (by decide) ?_
  refine o_iconst (v := nI 0) dX9_cellsOf_39 (by decide) ?_
  refine o_istore dX9_cellsOf_40 (by decide) ?_
  have hup := cg_sq_lt (cg_up_le hj q4)
  have hrr := cg_sq_lt (x := 2 * cg_rad (K.2 c 0) (K.2 c 1) (K.2 c 2) i) (by have := cg_rad_le (S := K.2 c 0) (H := K.2 c 1) (B := K.2 c 2) (i := i); omega)
  rcases Nat.lt_or_ge (2 * cg_rad (K.2 c 0) (K.2 c 1) (K.2 c 2) i * (2 * cg_rad (K.2 c 0) (K.2 c 1) (K.2 c 2) i)) (cg_dist (2 * j + 1) (2 * K.2 c 2) * cg_dist (2 * j + 1) (2 * K.2 c 2)) with hlt | hge
  · refine o_iload dX9_cellsOf_42 rfl ?_
    refine o_if_lt (tgt := 69) dX9_cellsOf_44 (by decide) (fun b_5 => ?_) (fun b_5 => absurd b_5 (fun q => q (pk_sneg (by omega) hlt)))
    refine o_iconst (v := nI 2) dX9_cellsOf_69 (by decide) ?_
    refine o_iload dX9_cellsOf_70 rfl ?_
    refine o_imulN dX9_cellsOf_72 ?_
    exact o_iret dX9_cellsOf_73 rfl ⟨rfl, by rw [show cg_cell (K.2 c 0) (K.2 c 1) (K.2 c 2) i j = 2 * 0 from congrArg (2 * ·) (by unfold cg_room; rw [Nat.sub_eq_zero_of_le (Nat.le_of_lt hlt)]; exact cg_wl_0)]⟩
  · rw [pk_sub hge]
    exact lp_cellsOf (by omega) ⟨rfl, rfl⟩ 21 0 rfl rfl (Or.inl rfl)
end
section
theorem cg_sum_s (f : Nat → Nat) (n : Nat) : cg_sum f (n + 1) = cg_sum f n + f n := rfl
/-- what lays() leaves: the top, the row of heights -/
def MU (I : sm_I) (S H B l : Nat) : Prop := I 106 17 = nI (cg_top S B l) ∧ ∀ q, q ≤ cg_top S B l → I 114 q = nI (cg_U S H B l q)
def frU (I I' : sm_I) : Prop := ∀ a k, a ≠ 114 → ¬ (a = 106 ∧ k = 17) → I' a k = I a k
theorem frU.refl (I : sm_I) : frU I I := fun _ _ _ _ => rfl
theorem MK.frU {I I' : sm_I} {K : KT} (h : MK I 107 0 K) (hf : frU I I') : MK I' 107 0 K := h.of (fun k => hf 107 k (by omega) (by omega))

theorem lp_lays_in1 {ζ : sm_Z} {d : Nat} (hd : 3 ≤ d) {I : sm_I} {Q : Option Value → sm_I → Prop} {K : KT} (hok : okK K) {c : Nat} (hc : c < K.1) (hK : MK I 107 0 K) {y : Nat} (hy : y < 2 * (K.2 c 2)) (hx : X0 ζ d mX9_lays 108 [some (.ref 106), some (.int (nI c)), some (.int (nI 1)), some (.int (nI y)), some (.int (nI (cg_sum (fun k => cg_cell (K.2 c 0) (K.2 c 1) (K.2 c 2) k y) (K.2 c 0)))), some (.int (nI (K.2 c 0)))] [] I Q) : ∀ f k : Nat, k + f = (K.2 c 0) → X0 ζ d mX9_lays 48 [some (.ref 106), some (.int (nI c)), some (.int (nI 1)), some (.int (nI y)), some (.int (nI (cg_sum (fun k => cg_cell (K.2 c 0) (K.2 c 1) (K.2 c 2) k y) k))), some (.int (nI k))] [] I Q := by
  have hn := hok.1
  obtain ⟨q0, q1, q2, q3, q4, q5, q6, q7⟩ := hok.2 c hc
  intro f
  induction f with
  | zero =>
    intro k hk
    have hkk : k = (K.2 c 0) := by omega
    refine o_iload dX9_lays_48 rfl ?_
    refine o_iload_n dX9_lays_50 rfl rfl ?_
    refine o_ifN_eq (tgt := 63) dX9_lays_51 (by decide) (by omega) (fun b_4 => absurd b_4 (by omega)) (fun b_4 => ?_)
    refine o_aload_n dX9_lays_54 rfl rfl ?_
    refine o_iload_n dX9_lays_55 rfl rfl ?_
    refine o_iconst (v := nI 0) dX9_lays_56 (by decide) ?_
    refine o_callV (as := [.int (nI c), .int (nI 0)]) (st := [.int (nI k)]) dX9_lays_57 (c_ofK hK hn hc (by decide)) rfl meX9_of imX9_of seX9_of mlX9_103 sh_106 rfl rfl (by omega) (by decide) (Nat.le_of_ble_eq_true rfl) ?_
    rintro _ _ ⟨rfl, rfl⟩
    refine o_goto (tgt := 71) dX9_lays_60 (by decide) ?_
    refine o_icmpN_ge (tgt := 108) dX9_lays_71 (by decide) (by omega) (by omega) (fun b_5 => ?_) (fun b_5 => absurd b_5 (by omega))
    subst hkk
    exact hx
  | succ f ih =>
    intro k hk
    refine o_iload dX9_lays_48 rfl ?_
    refine o_iload_n dX9_lays_50 rfl rfl ?_
    refine o_ifN_eq (tgt := 63) dX9_lays_51 (by decide) (by omega) (fun b_6 => absurd b_6 (by omega)) (fun b_6 => ?_)
    refine o_aload_n dX9_lays_54 rfl rfl ?_
    refine o_iload_n dX9_lays_55 rfl rfl ?_
    refine o_iconst (v := nI 0) dX9_lays_56 (by decide) ?_
    refine o_callV (as := [.int (nI c), .int (nI 0)]) (st := [.int (nI k)]) dX9_lays_57 (c_ofK hK hn hc (by decide)) rfl meX9_of imX9_of seX9_of mlX9_103 sh_106 rfl rfl (by omega) (by decide) (Nat.le_of_ble_eq_true rfl) ?_
    rintro _ _ ⟨rfl, rfl⟩
    refine o_goto (tgt := 71) dX9_lays_60 (by decide) ?_
    refine o_icmpN_ge (tgt := 108) dX9_lays_71 (by decide) (by omega) (by omega) (fun b_7 => absurd b_7 (by omega)) (fun b_7 => ?_)
    have hkS : k < (K.2 c 0) := by omega
    refine o_iload dX9_lays_74 rfl ?_
    refine o_iload_n dX9_lays_76 rfl rfl ?_
    refine o_ifN_eq (tgt := 91) dX9_lays_77 (by decide) (by omega) (fun b_8 => absurd b_8 (by omega)) (fun b_8 => ?_)
    refine o_aload_n dX9_lays_80 rfl rfl ?_
    refine o_iload_n dX9_lays_81 rfl rfl ?_
    refine o_iload dX9_lays_82 rfl ?_
    refine o_iload_n dX9_lays_84 rfl rfl ?_
    refine o_callV (as := [.int (nI c), .int (nI k), .int (nI y)]) (st := [.int (nI (cg_sum (fun k => cg_cell (K.2 c 0) (K.2 c 1) (K.2 c 2) k y) k))]) dX9_lays_85 (c_cellsOf hK hok hc hkS hy) rfl meX9_cellsOf imX9_cellsOf seX9_cellsOf mlX9_112 sh_106 rfl rfl (by omega) (by decide) (Nat.le_of_ble_eq_true rfl) ?_
    rintro _ _ ⟨rfl, rfl⟩
    refine o_goto (tgt := 99) dX9_lays_88 (by decide) ?_
    refine o_iaddN dX9_lays_99 ?_
    refine o_istore dX9_lays_100 (by decide) ?_
    refine o_iincN (w := 1) dX9_lays_102 rfl (by decide) (by decide) ?_
    refine o_goto (tgt := 48) dX9_lays_105 (by decide) ?_
    exact ih (k + 1) (by omega)

theorem lp_lays1 {ζ : sm_Z} {d : Nat} (hd : 3 ≤ d) {I0 : sm_I} {Q : Option Value → sm_I → Prop} {K : KT} (hok : okK K) {c : Nat} (hc : c < K.1) (hq : ∀ I' : sm_I, MU I' (K.2 c 0) (K.2 c 1) (K.2 c 2) 1 → frU I0 I' → Q none I') : ∀ (f y : Nat) (I : sm_I) (a4 a5 : Option Value), y + f = cg_top (K.2 c 0) (K.2 c 2) 1 → MK I 107 0 K → (I 106 17 = nI (cg_top (K.2 c 0) (K.2 c 2) 1) ∧ ∀ q, q ≤ y → q ≤ cg_top (K.2 c 0) (K.2 c 2) 1 → I 114 q = nI (cg_U (K.2 c 0) (K.2 c 1) (K.2 c 2) 1 q)) → frU I0 I → X0 ζ d mX9_lays 34 [some (.ref 106), some (.int (nI c)), some (.int (nI 1)), some (.int (nI y)), a4, a5] [] I Q := by
  have hn := hok.1
  obtain ⟨q0, q1, q2, q3, q4, q5, q6, q7⟩ := hok.2 c hc
  have htl : cg_top (K.2 c 0) (K.2 c 2) 1 ≤ 40 := cg_top_le q1 q4
  have hte : cg_top (K.2 c 0) (K.2 c 2) 1 = 2 * (K.2 c 2) := by unfold cg_top; simp
  intro f
  induction f with
  | zero =>
    intro y I a4 a5 hy hK htop hF
    have hyy : y = cg_top (K.2 c 0) (K.2 c 2) 1 := by omega
    refine o_iload_n dX9_lays_34 rfl rfl ?_
    refine o_aload_n dX9_lays_35 rfl rfl ?_
    refine o_getI (v := nI (cg_top (K.2 c 0) (K.2 c 2) 1)) dX9_lays_36 fgX9_109 sh_106 rfl htop.1 ?_
    refine o_icmpN_ge (tgt := 131) dX9_lays_39 (by decide) (by omega) (by omega) (fun b_9 => ?_) (fun b_9 => absurd b_9 (by omega))
    exact o_vret dX9_lays_131 rfl (hq _ ⟨htop.1, fun q h1 => htop.2 q (by omega) h1⟩ hF)
  | succ f ih =>
    intro y I a4 a5 hy hK htop hF
    have hUy : cg_U (K.2 c 0) (K.2 c 1) (K.2 c 2) 1 (y + 1) = cg_U (K.2 c 0) (K.2 c 1) (K.2 c 2) 1 y + cg_sum (fun k => cg_cell (K.2 c 0) (K.2 c 1) (K.2 c 2) k y) (K.2 c 0) := by unfold cg_U; rw [cg_sum_s]; unfold cg_row; simp
    have hUl := cg_U_le (S := (K.2 c 0)) (H := (K.2 c 1)) (B := (K.2 c 2)) (l := 1) (y := y + 1) q1 q4 (by omega)
    refine o_iload_n dX9_lays_34 rfl rfl ?_
    refine o_aload_n dX9_lays_35 rfl rfl ?_
    refine o_getI (v := nI (cg_top (K.2 c 0) (K.2 c 2) 1)) dX9_lays_36 fgX9_109 sh_106 rfl htop.1 ?_
    refine o_icmpN_ge (tgt := 131) dX9_lays_39 (by decide) (by omega) (by omega) (fun b_10 => absurd b_10 (by omega)) (fun b_10 => ?_)
    refine o_iconst (v := nI 0) dX9_lays_42 (by decide) ?_
    refine o_istore dX9_lays_43 (by decide) ?_
    refine o_iconst (v := nI 0) dX9_lays_45 (by decide) ?_
    refine o_istore dX9_lays_46 (by decide) ?_
    refine lp_lays_in1 hd hok hc hK (by omega) ?_ (K.2 c 0) 0 (by omega)
    refine o_aload_n dX9_lays_108 rfl rfl ?_
    refine o_getR (b := 114) dX9_lays_109 fgX9_33 sh_106 rfl rfl ?_
    refine o_iload_n dX9_lays_112 rfl rfl ?_
    refine o_iconst (v := nI 1) dX9_lays_113 (by decide) ?_
    refine o_iaddN dX9_lays_114 ?_
    refine o_aload_n dX9_lays_115 rfl rfl ?_
    refine o_getR (b := 114) dX9_lays_116 fgX9_33 sh_106 rfl rfl ?_
    refine o_iload_n dX9_lays_119 rfl rfl ?_
    refine o_ialdN (v := nI (cg_U (K.2 c 0) (K.2 c 1) (K.2 c 2) 1 y)) dX9_lays_120 sh_114 (by decide) (by omega) (htop.2 y (by omega) (by omega)) ?_
    refine o_iload dX9_lays_121 rfl ?_
    refine o_iaddN dX9_lays_123 ?_
    refine o_iastN dX9_lays_124 sh_114 (by decide) (by omega) ?_
    refine o_iincN (w := 1) dX9_lays_125 rfl (by decide) (by decide) ?_
    refine o_goto (tgt := 34) dX9_lays_128 (by decide) ?_
    rw [← hUy]
    refine ih (y + 1) _ _ _ (by omega) (hK.of (fun k => up2_x (by omega))) ⟨(up2_x (by omega)).trans htop.1, fun q hq1 hq2 => ?_⟩ (fun a k h1 h2 => (up2_x (by omega)).trans (hF a k h1 h2))
    rcases Nat.lt_or_ge q (y + 1) with h1 | h1
    · exact (up2_x (by omega)).trans (htop.2 q (by omega) hq2)
    · have hqq : q = y + 1 := by omega
      subst hqq
      exact up2_s

set_option maxHeartbeats 4000000 in
set_option maxRecDepth 100000 in
theorem c_lays1 {I : sm_I} {K : KT} (hok : okK K) {c : Nat} (hc : c < K.1) (hK : MK I 107 0 K) : E0 3 mX9_lays [.ref 106, .int (nI c), .int (nI 1)] I (fun r I' => r = none ∧ MU I' (K.2 c 0) (K.2 c 1) (K.2 c 2) 1 ∧ frU I I') := by
  have hn := hok.1
  obtain ⟨q0, q1, q2, q3, q4, q5, q6, q7⟩ := hok.2 c hc
  refine E0.of (by decide) (by simp [Value.category]) (Nat.le_of_ble_eq_true rfl) (fun ζ => ?_)
  refine o_aload_n dX9_lays_0 rfl rfl ?_
  refine o_iload_n dX9_lays_1 rfl rfl ?_
  refine o_ifN_eq (tgt := 16) dX9_lays_2 (by decide) (by omega) (fun b_11 => absurd b_11 (by omega)) (fun b_11 => ?_)
  refine o_iconst (v := nI 2) dX9_lays_5 (by decide) ?_
  refine o_aload_n dX9_lays_6 rfl rfl ?_
  refine o_iload_n dX9_lays_7 rfl rfl ?_
  refine o_iconst (v := nI 2) dX9_lays_8 (by decide) ?_
  refine o_callV (as := [.int (nI c), .int (nI 2)]) (st := [.int (nI 2), .ref 106]) dX9_lays_9 (c_ofK hK hn hc (by decide)) rfl meX9_of imX9_of seX9_of mlX9_103 sh_106 rfl rfl (by omega) (by decide) (Nat.le_of_ble_eq_true rfl) ?_
  rintro _ _ ⟨rfl, rfl⟩
  refine o_imulN dX9_lays_12 ?_
  refine o_goto (tgt := 22) dX9_lays_13 (by decide) ?_
  refine o_putI dX9_lays_22 flX9_109 sh_106 rfl ?_
  refine o_aload_n dX9_lays_25 rfl rfl ?_
  refine o_getR (b := 114) dX9_lays_26 fgX9_33 sh_106 rfl rfl ?_
  refine o_iconst (v := nI 0) dX9_lays_29 (by decide) ?_
  refine o_iconst (v := nI 0) dX9_lays_30 (by decide) ?_
  refine o_iastN dX9_lays_31 sh_114 (by decide) (by omega) ?_
  refine o_iconst (v := nI 0) dX9_lays_32 (by decide) ?_
  refine o_istore_n dX9_lays_33 rfl (by decide) ?_
  refine lp_lays1 (by omega) hok hc (fun I' h1 h2 => ⟨rfl, h1, h2⟩) (cg_top (K.2 c 0) (K.2 c 2) 1) 0 _ _ _ (by omega) (hK.of (fun k => (up2_x (by omega)).trans (up2_x (by omega)))) ⟨(up2_x (by omega)).trans up2_s, fun q h1 h2 => ?_⟩ (fun a k h1 h2 => (up2_x (by omega)).trans (up2_x (by omega)))
  have hq0 : q = 0 := by omega
  subst hq0
  exact up2_s

theorem lp_lays_in0 {ζ : sm_Z} {d : Nat} (hd : 3 ≤ d) {I : sm_I} {Q : Option Value → sm_I → Prop} {K : KT} (hok : okK K) {c : Nat} (hc : c < K.1) (hK : MK I 107 0 K) {y : Nat} (hy : y < (K.2 c 0)) (hx : X0 ζ d mX9_lays 108 [some (.ref 106), some (.int (nI c)), some (.int (nI 0)), some (.int (nI y)), some (.int (nI (cg_sum (fun k => cg_cell (K.2 c 0) (K.2 c 1) (K.2 c 2) y k) (2 * (K.2 c 2))))), some (.int (nI (2 * (K.2 c 2))))] [] I Q) : ∀ f k : Nat, k + f = (2 * (K.2 c 2)) → X0 ζ d mX9_lays 48 [some (.ref 106), some (.int (nI c)), some (.int (nI 0)), some (.int (nI y)), some (.int (nI (cg_sum (fun k => cg_cell (K.2 c 0) (K.2 c 1) (K.2 c 2) y k) k))), some (.int (nI k))] [] I Q := by
  have hn := hok.1
  obtain ⟨q0, q1, q2, q3, q4, q5, q6, q7⟩ := hok.2 c hc
  intro f
  induction f with
  | zero =>
    intro k hk
    have hkk : k = (2 * (K.2 c 2)) := by omega
    refine o_iload dX9_lays_48 rfl ?_
    refine o_iload_n dX9_lays_50 rfl rfl ?_
    refine o_ifN_eq (tgt := 63) dX9_lays_51 (by decide) (by omega) (fun b_15 => ?_) (fun b_15 => absurd b_15 (by omega))
    refine o_iconst (v := nI 2) dX9_lays_63 (by decide) ?_
    refine o_aload_n dX9_lays_64 rfl rfl ?_
    refine o_iload_n dX9_lays_65 rfl rfl ?_
    refine o_iconst (v := nI 2) dX9_lays_66 (by decide) ?_
    refine o_callV (as := [.int (nI c), .int (nI 2)]) (st := [.int (nI 2), .int (nI k)]) dX9_lays_67 (c_ofK hK hn hc (by decide)) rfl meX9_of imX9_of seX9_of mlX9_103 sh_106 rfl rfl (by omega) (by decide) (Nat.le_of_ble_eq_true rfl) ?_
    rintro _ _ ⟨rfl, rfl⟩
    refine o_imulN dX9_lays_70 ?_
    refine o_icmpN_ge (tgt := 108) dX9_lays_71 (by decide) (by omega) (by omega) (fun b_16 => ?_) (fun b_16 => absurd b_16 (by omega))
    subst hkk
    exact hx
  | succ f ih =>
    intro k hk
    refine o_iload dX9_lays_48 rfl ?_
    refine o_iload_n dX9_lays_50 rfl rfl ?_
    refine o_ifN_eq (tgt := 63) dX9_lays_51 (by decide) (by omega) (fun b_17 => ?_) (fun b_17 => absurd b_17 (by omega))
    refine o_iconst (v := nI 2) dX9_lays_63 (by decide) ?_
    refine o_aload_n dX9_lays_64 rfl rfl ?_
    refine o_iload_n dX9_lays_65 rfl rfl ?_
    refine o_iconst (v := nI 2) dX9_lays_66 (by decide) ?_
    refine o_callV (as := [.int (nI c), .int (nI 2)]) (st := [.int (nI 2), .int (nI k)]) dX9_lays_67 (c_ofK hK hn hc (by decide)) rfl meX9_of imX9_of seX9_of mlX9_103 sh_106 rfl rfl (by omega) (by decide) (Nat.le_of_ble_eq_true rfl) ?_
    rintro _ _ ⟨rfl, rfl⟩
    refine o_imulN dX9_lays_70 ?_
    refine o_icmpN_ge (tgt := 108) dX9_lays_71 (by decide) (by omega) (by omega) (fun b_18 => absurd b_18 (by omega)) (fun b_18 => ?_)
    have hkS : k < (2 * (K.2 c 2)) := by omega
    refine o_iload dX9_lays_74 rfl ?_
    refine o_iload_n dX9_lays_76 rfl rfl ?_
    refine o_ifN_eq (tgt := 91) dX9_lays_77 (by decide) (by omega) (fun b_19 => ?_) (fun b_19 => absurd b_19 (by omega))
    refine o_aload_n dX9_lays_91 rfl rfl ?_
    refine o_iload_n dX9_lays_92 rfl rfl ?_
    refine o_iload_n dX9_lays_93 rfl rfl ?_
    refine o_iload dX9_lays_94 rfl ?_
    refine o_callV (as := [.int (nI c), .int (nI y), .int (nI k)]) (st := [.int (nI (cg_sum (fun k => cg_cell (K.2 c 0) (K.2 c 1) (K.2 c 2) y k) k))]) dX9_lays_96 (c_cellsOf hK hok hc hy hkS) rfl meX9_cellsOf imX9_cellsOf seX9_cellsOf mlX9_112 sh_106 rfl rfl (by omega) (by decide) (Nat.le_of_ble_eq_true rfl) ?_
    rintro _ _ ⟨rfl, rfl⟩
    refine o_iaddN dX9_lays_99 ?_
    refine o_istore dX9_lays_100 (by decide) ?_
    refine o_iincN (w := 1) dX9_lays_102 rfl (by decide) (by decide) ?_
    refine o_goto (tgt := 48) dX9_lays_105 (by decide) ?_
    exact ih (k + 1) (by omega)

theorem lp_lays0 {ζ : sm_Z} {d : Nat} (hd : 3 ≤ d) {I0 : sm_I} {Q : Option Value → sm_I → Prop} {K : KT} (hok : okK K) {c : Nat} (hc : c < K.1) (hq : ∀ I' : sm_I, MU I' (K.2 c 0) (K.2 c 1) (K.2 c 2) 0 → frU I0 I' → Q none I') : ∀ (f y : Nat) (I : sm_I) (a4 a5 : Option Value), y + f = cg_top (K.2 c 0) (K.2 c 2) 0 → MK I 107 0 K → (I 106 17 = nI (cg_top (K.2 c 0) (K.2 c 2) 0) ∧ ∀ q, q ≤ y → q ≤ cg_top (K.2 c 0) (K.2 c 2) 0 → I 114 q = nI (cg_U (K.2 c 0) (K.2 c 1) (K.2 c 2) 0 q)) → frU I0 I → X0 ζ d mX9_lays 34 [some (.ref 106), some (.int (nI c)), some (.int (nI 0)), some (.int (nI y)), a4, a5] [] I Q := by
  have hn := hok.1
  obtain ⟨q0, q1, q2, q3, q4, q5, q6, q7⟩ := hok.2 c hc
  have htl : cg_top (K.2 c 0) (K.2 c 2) 0 ≤ 40 := cg_top_le q1 q4
  have hte : cg_top (K.2 c 0) (K.2 c 2) 0 = (K.2 c 0) := by unfold cg_top; simp
  intro f
  induction f with
  | zero =>
    intro y I a4 a5 hy hK htop hF
    have hyy : y = cg_top (K.2 c 0) (K.2 c 2) 0 := by omega
    refine o_iload_n dX9_lays_34 rfl rfl ?_
    refine o_aload_n dX9_lays_35 rfl rfl ?_
    refine o_getI (v := nI (cg_top (K.2 c 0) (K.2 c 2) 0)) dX9_lays_36 fgX9_109 sh_106 rfl htop.1 ?_
    refine o_icmpN_ge (tgt := 131) dX9_lays_39 (by decide) (by omega) (by omega) (fun b_20 => ?_) (fun b_20 => absurd b_20 (by omega))
    exact o_vret dX9_lays_131 rfl (hq _ ⟨htop.1, fun q h1 => htop.2 q (by omega) h1⟩ hF)
  | succ f ih =>
    intro y I a4 a5 hy hK htop hF
    have hUy : cg_U (K.2 c 0) (K.2 c 1) (K.2 c 2) 0 (y + 1) = cg_U (K.2 c 0) (K.2 c 1) (K.2 c 2) 0 y + cg_sum (fun k => cg_cell (K.2 c 0) (K.2 c 1) (K.2 c 2) y k) (2 * (K.2 c 2)) := by unfold cg_U; rw [cg_sum_s]; unfold cg_row; simp
    have hUl := cg_U_le (S := (K.2 c 0)) (H := (K.2 c 1)) (B := (K.2 c 2)) (l := 0) (y := y + 1) q1 q4 (by omega)
    refine o_iload_n dX9_lays_34 rfl rfl ?_
    refine o_aload_n dX9_lays_35 rfl rfl ?_
    refine o_getI (v := nI (cg_top (K.2 c 0) (K.2 c 2) 0)) dX9_lays_36 fgX9_109 sh_106 rfl htop.1 ?_
    refine o_icmpN_ge (tgt := 131) dX9_lays_39 (by decide) (by omega) (by omega) (fun b_21 => absurd b_21 (by omega)) (fun b_21 => ?_)
    refine o_iconst (v := nI 0) dX9_lays_42 (by decide) ?_
    refine o_istore dX9_lays_43 (by decide) ?_
    refine o_iconst (v := nI 0) dX9_lays_45 (by decide) ?_
    refine o_istore dX9_lays_46 (by decide) ?_
    refine lp_lays_in0 hd hok hc hK (by omega) ?_ (2 * (K.2 c 2)) 0 (by omega)
    refine o_aload_n dX9_lays_108 rfl rfl ?_
    refine o_getR (b := 114) dX9_lays_109 fgX9_33 sh_106 rfl rfl ?_
    refine o_iload_n dX9_lays_112 rfl rfl ?_
    refine o_iconst (v := nI 1) dX9_lays_113 (by decide) ?_
    refine o_iaddN dX9_lays_114 ?_
    refine o_aload_n dX9_lays_115 rfl rfl ?_
    refine o_getR (b := 114) dX9_lays_116 fgX9_33 sh_106 rfl rfl ?_
    refine o_iload_n dX9_lays_119 rfl rfl ?_
    refine o_ialdN (v := nI (cg_U (K.2 c 0) (K.2 c 1) (K.2 c 2) 0 y)) dX9_lays_120 sh_114 (by decide) (by omega) (htop.2 y (by omega) (by omega)) ?_
    refine o_iload dX9_lays_121 rfl ?_
    refine o_iaddN dX9_lays_123 ?_
    refine o_iastN dX9_lays_124 sh_114 (by decide) (by omega) ?_
    refine o_iincN (w := 1) dX9_lays_125 rfl (by decide) (by decide) ?_
    refine o_goto (tgt := 34) dX9_lays_128 (by decide) ?_
    rw [← hUy]
    refine ih (y + 1) _ _ _ (by omega) (hK.of (fun k => up2_x (by omega))) ⟨(up2_x (by omega)).trans htop.1, fun q hq1 hq2 => ?_⟩ (fun a k h1 h2 => (up2_x (by omega)).trans (hF a k h1 h2))
    rcases Nat.lt_or_ge q (y + 1) with h1 | h1
    · exact (up2_x (by omega)).trans (htop.2 q (by omega) hq2)
    · have hqq : q = y + 1 := by omega
      subst hqq
      exact up2_s

set_option maxHeartbeats 4000000 in
set_option maxRecDepth 100000 in
theorem c_lays0 {I : sm_I} {K : KT} (hok : okK K) {c : Nat} (hc : c < K.1) (hK : MK I 107 0 K) : E0 3 mX9_lays [.ref 106, .int (nI c), .int (nI 0)] I (fun r I' => r = none ∧ MU I' (K.2 c 0) (K.2 c 1) (K.2 c 2) 0 ∧ frU I I') := by
  have hn := hok.1
  obtain ⟨q0, q1, q2, q3, q4, q5, q6, q7⟩ := hok.2 c hc
  refine E0.of (by decide) (by simp [Value.category]) (Nat.le_of_ble_eq_true rfl) (fun ζ => ?_)
  refine o_aload_n dX9_lays_0 rfl rfl ?_
  refine o_iload_n dX9_lays_1 rfl rfl ?_
  refine o_ifN_eq (tgt := 16) dX9_lays_2 (by decide) (by omega) (fun b_22 => ?_) (fun b_22 => absurd b_22 (by omega))
  refine o_aload_n dX9_lays_16 rfl rfl ?_
  refine o_iload_n dX9_lays_17 rfl rfl ?_
  refine o_iconst (v := nI 0) dX9_lays_18 (by decide) ?_
  refine o_callV (as := [.int (nI c), .int (nI 0)]) (st := [.ref 106]) dX9_lays_19 (c_ofK hK hn hc (by decide)) rfl meX9_of imX9_of seX9_of mlX9_103 sh_106 rfl rfl (by omega) (by decide) (Nat.le_of_ble_eq_true rfl) ?_
  rintro _ _ ⟨rfl, rfl⟩
  refine o_putI dX9_lays_22 flX9_109 sh_106 rfl ?_
  refine o_aload_n dX9_lays_25 rfl rfl ?_
  refine o_getR (b := 114) dX9_lays_26 fgX9_33 sh_106 rfl rfl ?_
  refine o_iconst (v := nI 0) dX9_lays_29 (by decide) ?_
  refine o_iconst (v := nI 0) dX9_lays_30 (by decide) ?_
  refine o_iastN dX9_lays_31 sh_114 (by decide) (by omega) ?_
  refine o_iconst (v := nI 0) dX9_lays_32 (by decide) ?_
  refine o_istore_n dX9_lays_33 rfl (by decide) ?_
  refine lp_lays0 (by omega) hok hc (fun I' h1 h2 => ⟨rfl, h1, h2⟩) (cg_top (K.2 c 0) (K.2 c 2) 0) 0 _ _ _ (by omega) (hK.of (fun k => (up2_x (by omega)).trans (up2_x (by omega)))) ⟨(up2_x (by omega)).trans up2_s, fun q h1 h2 => ?_⟩ (fun a k h1 h2 => (up2_x (by omega)).trans (up2_x (by omega)))
  have hq0 : q = 0 := by omega
  subst hq0
  exact up2_s
end
section
/-- an int as a place below n -/
def cg_ix (n : Nat) (c : Int32) : Option Nat := if ¬ c < 0 ∧ c.toNatClampNeg < n then some c.toNatClampNeg else none
theorem cg_ix_some {n j : Nat} (h : j < n) (hn : n ≤ 2 ^ 31) : cg_ix n (nI j) = some j := by
  unfold cg_ix
  rw [nI_clamp (by omega), if_pos ⟨nI_pos (by omega), h⟩]
theorem cg_ix_none {n : Nat} {c : Int32} (h : ∀ j, j < n → c ≠ nI j) : cg_ix n c = none := by
  unfold cg_ix
  rw [if_neg]
  rintro ⟨h1, h2⟩
  obtain ⟨j, hj, rfl⟩ := nI_of h1
  rw [nI_clamp hj] at h2
  exact h j h2 rfl
theorem cg_ix_neg {n : Nat} {c : Int32} (h : c < 0) : cg_ix n c = none := by
  unfold cg_ix
  rw [if_neg]
  exact fun q => q.1 h
theorem cg_ix_big {n : Nat} {c : Int32} (hn : n < 2 ^ 31) (h : nI n ≤ c) : cg_ix n c = none := by
  refine cg_ix_none (fun j hj e => ?_)
  subst e
  have := (nI_leI hn (by omega)).mp h
  omega
theorem cg_ix_cases (n : Nat) (hn : n < 2 ^ 31) (c : Int32) : (∃ j, j < n ∧ c = nI j ∧ cg_ix n c = some j) ∨ (cg_ix n c = none ∧ (c < 0 ∨ nI n ≤ c)) := by
  rcases pk_ix c hn with h | h | ⟨j, hj, rfl⟩
  · exact Or.inr ⟨cg_ix_neg h, Or.inl h⟩
  · exact Or.inr ⟨cg_ix_big hn h, Or.inr h⟩
  · exact Or.inl ⟨j, hj, rfl, cg_ix_some hj (by omega)⟩
/-- an int between two naturals -/
def cg_in (a b : Nat) (c : Int32) : Option Nat := match cg_ix (b + 1) c with
  | some j => if a ≤ j then some j else none
  | none => none
theorem cg_in_some {a b j : Nat} (h1 : a ≤ j) (h2 : j ≤ b) (hb : b < 2 ^ 31) : cg_in a b (nI j) = some j := by
  unfold cg_in
  rw [cg_ix_some (by omega) (by omega)]
  simp [h1]
theorem cg_in_none {a b : Nat} {c : Int32} (ha : a < 2 ^ 31) (hb : b < 2 ^ 31) (h : ¬ (nI a ≤ c ∧ c ≤ nI b)) : cg_in a b c = none := by
  unfold cg_in
  split
  · rename_i j hj
    unfold cg_ix at hj
    split at hj
    · rename_i h3
      obtain ⟨j', hj', rfl⟩ := nI_of h3.1
      rw [nI_clamp hj'] at hj h3
      cases hj
      rw [if_neg]
      intro h4
      exact h ⟨(nI_leI ha hj').mpr h4, (nI_leI hj' hb).mpr (by omega)⟩
    · cases hj
  · rfl
/-! ===== the whole state ===== -/
abbrev ST : Type := KT × (Nat × (Nat → Nat)) × (Nat × (Nat → KT)) × (Nat → Option KT) × (Nat × (Nat → Nat) × (Nat → Nat))
def okS (S : ST) : Prop := okK S.1 ∧ (S.2.1.1 ≤ 60 ∧ ∀ j, j < S.2.1.1 → S.2.1.2 j < 256) ∧ (S.2.2.1.1 ≤ 8 ∧ ∀ k, k < S.2.2.1.1 → okK (S.2.2.1.2 k)) ∧ (∀ i K, i < 2 → S.2.2.2.1 i = some K → okK K) ∧ (S.2.2.2.2.1 ≤ 6 ∧ ∀ j, j < S.2.2.2.2.1 → S.2.2.2.2.2.1 j ≤ 99999 ∧ S.2.2.2.2.2.2 j ≤ 40)
def MI (I : sm_I) (S : ST) : Prop := MK I 107 0 S.1 ∧ (I 106 10 = nI S.2.1.1 ∧ ∀ j, j < S.2.1.1 → I 113 j = (nI (S.2.1.2 j)).toInt8.toInt32) ∧ (I 106 4 = nI S.2.2.1.1 ∧ ∀ k, k < S.2.2.1.1 → MK I 109 (25 * k) (S.2.2.1.2 k)) ∧ (∀ i, i < 2 → (S.2.2.2.1 i = none → I 111 i = nI 0) ∧ ∀ K, S.2.2.2.1 i = some K → I 111 i = nI 1 ∧ MK I 110 (25 * i) K) ∧ (I 106 8 = nI S.2.2.2.2.1 ∧ ∀ j, j < S.2.2.2.2.1 → I 112 (2 * j) = nI (S.2.2.2.2.2.1 j) ∧ I 112 (2 * j + 1) = nI (S.2.2.2.2.2.2 j))
/-- the cells of the reference that tell its state -/
def mn (a k : Nat) : Prop := (a = 106 ∧ (k = 4 ∨ k = 8 ∨ k = 10)) ∨ a = 107 ∨ (109 ≤ a ∧ a ≤ 113)
def frM (I I' : sm_I) : Prop := ∀ a k, (mn a k ∨ a < 106) → I' a k = I a k
theorem frM.refl (I : sm_I) : frM I I := fun _ _ _ => rfl
theorem frM.trans {I J K : sm_I} (h1 : frM I J) (h2 : frM J K) : frM I K := fun a k h => (h2 a k h).trans (h1 a k h)
theorem frU.M {I I' : sm_I} (h : frU I I') : frM I I' := by
  intro a k q
  refine h a k ?_ ?_
  · rcases q with q | q
    · unfold mn at q; omega
    · omega
  · rcases q with q | q
    · unfold mn at q; omega
    · omega
theorem MI.fr {I I' : sm_I} {S : ST} (h : MI I S) (hf : frM I I') : MI I' S := by
  obtain ⟨h1, ⟨h2, h3⟩, ⟨h4, h5⟩, h6, h7, h8⟩ := h
  have e : ∀ a k, mn a k → I' a k = I a k := fun a k q => hf a k (Or.inl q)
  refine ⟨h1.of (fun k => e 107 k (by unfold mn; omega)), ⟨(e _ _ (by unfold mn; omega)).trans h2, fun j hj => (e _ _ (by unfold mn; omega)).trans (h3 j hj)⟩, ⟨(e _ _ (by unfold mn; omega)).trans h4, fun k hk => (h5 k hk).of (fun k => e 109 k (by unfold mn; omega))⟩, fun i hi => ⟨fun q => (e _ _ (by unfold mn; omega)).trans ((h6 i hi).1 q), fun K q => ⟨(e _ _ (by unfold mn; omega)).trans ((h6 i hi).2 K q).1, ((h6 i hi).2 K q).2.of (fun k => e 110 k (by unfold mn; omega))⟩⟩, (e _ _ (by unfold mn; omega)).trans h7, fun j hj => ⟨(e _ _ (by unfold mn; omega)).trans (h8 j hj).1, (e _ _ (by unfold mn; omega)).trans (h8 j hj).2⟩⟩
theorem frM.scr {I : sm_I} {a k : Nat} {v : Int32} (h : ¬ mn a k ∧ 106 ≤ a) : frM I (up2 I a k v) := by
  intro b j q
  refine up2_x ?_
  rintro ⟨rfl, rfl⟩
  rcases q with q | q
  · exact h.1 q
  · omega
theorem MK.frM {I I' : sm_I} {K : KT} (h : MK I 107 0 K) (hf : frM I I') : MK I' 107 0 K := h.of (fun k => hf 107 k (Or.inl (by unfold mn; omega)))
/-! ===== dips ===== -/
def cg_dp (u : Nat → Nat) (n : Nat) : Nat → Nat → Nat
  | 0, y => y
  | f + 1, y => if n ≤ u y then y else cg_dp u n f (y + 1)
def cg_dip (u : Nat → Nat) (top n : Nat) : Nat := cg_dp u n top 0
theorem cg_dp_le (u : Nat → Nat) (n : Nat) : ∀ f y, cg_dp u n f y ≤ y + f
  | 0, y => Nat.le_refl _
  | f + 1, y => by
    rw [cg_dp]
    split
    · omega
    · have := cg_dp_le u n f (y + 1); omega
theorem cg_dip_le (u : Nat → Nat) (top n : Nat) : cg_dip u top n ≤ top := by have := cg_dp_le u n top 0; unfold cg_dip; omega
/-- a cask's own numbers -/
abbrev cS (K : KT) (c : Nat) : Nat := K.2 c 0
abbrev cU (K : KT) (c y : Nat) : Nat := cg_U (K.2 c 0) (K.2 c 1) (K.2 c 2) (K.2 c 3) y
abbrev cT (K : KT) (c : Nat) : Nat := cg_top (K.2 c 0) (K.2 c 2) (K.2 c 3)
abbrev cH (K : KT) (c : Nat) : Nat := cg_hold (K.2 c 0) (K.2 c 1) (K.2 c 2) (K.2 c 3)
theorem okc.lT {K : KT} {c : Nat} (h : okc (K.2 c)) : cT K c ≤ 40 := cg_top_le h.2.1 h.2.2.2.2.1
theorem okc.lU {K : KT} {c : Nat} (h : okc (K.2 c)) {y : Nat} (hy : y ≤ 40) : cU K c y ≤ 67200 := cg_U_le h.2.1 h.2.2.2.2.1 hy
theorem okc.lH {K : KT} {c : Nat} (h : okc (K.2 c)) : cH K c ≤ 67200 := cg_hold_le h.2.1 h.2.2.2.2.1
theorem okc.w {K : KT} {c : Nat} (h : okc (K.2 c)) : K.2 c 4 ≤ cH K c := by
  rw [show cH K c = cg_hold (K.2 c 0) (K.2 c 1) (K.2 c 2) 1 from cg_hold_one _ _ _ h.2.2.2.2.2.1]
  exact h.2.2.2.2.2.2.2
/-! ===== what the calls that ask answer ===== -/
/-- a height of a cask -/
def sp_h (K : KT) (c y : Int32) : Option (Nat × Nat) := match cg_ix K.1 c with
  | none => none
  | some j => match cg_in 0 (cT K j) y with
    | none => none
    | some q => some (j, q)
def sp_under (K : KT) (c y : Int32) : Int32 := match sp_h K c y with
  | none => -1
  | some q => nI (cU K q.1 q.2)
def sp_dip (K : KT) (c n : Int32) : Int32 := match cg_ix K.1 c with
  | none => -1
  | some j => match cg_in 0 (cH K j) n with
    | none => -1
    | some q => nI (cg_dip (cU K j) (cT K j) q)
def sp_stick (K : KT) (c n k : Int32) : Int32 := match cg_ix K.1 c with
  | none => -1
  | some j => match cg_in 2 9 n with
    | none => -1
    | some p => match cg_in 1 p k with
      | none => -1
      | some q => nI (cg_dip (fun y => cU K j y * p) (cT K j) (cH K j * q))
def sp_known (K : KT) (c y w : Int32) : Int32 := match sp_h K c y with
  | none => -1
  | some q => match cg_in 0 1 w with
    | none => -1
    | some e => if cU K q.1 q.2 < (if q.2 = 0 then 0 else cU K q.1 (q.2 - 1) + 1) then -9 else if e = 0 then nI (if q.2 = 0 then 0 else cU K q.1 (q.2 - 1) + 1) else nI (cU K q.1 q.2)
def sp_slice (K : KT) (c i j : Int32) : Int32 := match cg_ix K.1 c with
  | none => -1
  | some q => match cg_ix (K.2 q 0) i with
    | none => -1
    | some p => if j = -1 then nI (cg_rad (K.2 q 0) (K.2 q 1) (K.2 q 2) p) else match cg_ix (2 * K.2 q 2) j with
      | none => -1
      | some e => nI (cg_cell (K.2 q 0) (K.2 q 1) (K.2 q 2) p e)
end
section
theorem isC_in {n : Nat} {c : Int32} (hn : n ≤ 4) (h1 : nI 0 ≤ c) (h2 : c ≤ nI n - nI 1) : ∃ j, j < n ∧ c = nI j ∧ some (Value.int (nI 1)) = some (.int (nI 1)) := by
  cases n with
  | zero =>
    exfalso
    have h3 := Int32.le_trans h1 h2
    exact absurd h3 (by decide)
  | succ n =>
    rw [nI_succ, show nI n + 1 - nI 1 = nI n from by rw [← nI_succ]; exact nI_pred n] at h2
    obtain ⟨j, -, hj, rfl⟩ := in_nat (by omega) (by omega) h1 h2
    exact ⟨j, by omega, rfl, rfl⟩
theorem isC_out {n : Nat} {c : Int32} (hn : n ≤ 4) (h : ¬ (nI 0 ≤ c ∧ c ≤ nI n - nI 1)) : cg_ix n c = none := by
  refine cg_ix_none (fun j hj e => h ?_)
  subst e
  refine ⟨nI_le (by omega) (by omega), ?_⟩
  rw [pk_sub (by omega)]
  exact nI_le (by omega) (by omega)

/-- what lays() of a cask leaves -/
def MC (I : sm_I) (K : KT) (c : Nat) : Prop := I 106 17 = nI (cT K c) ∧ ∀ q, q ≤ cT K c → I 114 q = nI (cU K c q)

set_option maxHeartbeats 4000000 in
set_option maxRecDepth 100000 in
theorem c_isCask {I : sm_I} {K : KT} (hK : MK I 107 0 K) (hok : okK K) (c : Int32) : E0 1 mX9_isCask [.ref 106, .int c] I (fun r I' => I' = I ∧ ((∃ j, j < K.1 ∧ c = nI j ∧ r = some (.int (nI 1))) ∨ (cg_ix K.1 c = none ∧ r = some (.int (nI 0))))) := by
  have hn := hok.1
  refine E0.of (by decide) (by simp [Value.category]) (Nat.le_of_ble_eq_true rfl) (fun ζ => ?_)
  refine o_iload_n dX9_isCask_0 rfl rfl ?_
  refine o_iconst (v := nI 0) dX9_isCask_1 (by decide) ?_
  refine o_aload_n dX9_isCask_2 rfl rfl ?_
  refine o_getR (b := 107) dX9_isCask_3 fgX9_7 sh_106 rfl rfl ?_
  refine o_bipush (v := nI 24) dX9_isCask_6 (by decide) ?_
  refine o_ialdN (v := nI K.1) dX9_isCask_8 sh_107 (by decide) (by omega) hK.n0 ?_
  refine o_iconst (v := nI 1) dX9_isCask_9 (by decide) ?_
  refine o_isub dX9_isCask_10 ?_
  refine o_callS (as := [.int c, .int (nI 0), .int ((nI K.1) - (nI 1))]) (st := []) dX9_isCask_11 (c_in _ _ _ _) rfl meX9_in ssX9_in mlX9_43 (by omega) (by decide) (Nat.le_of_ble_eq_true rfl) ?_
  rintro _ _ ⟨rfl, ⟨h1, h2, rfl⟩ | ⟨h, rfl⟩⟩
  · exact o_zret dX9_isCask_14 rfl (by decide) ⟨rfl, Or.inl (isC_in hn h1 h2)⟩
  · exact o_zret dX9_isCask_14 rfl (by decide) ⟨rfl, Or.inr ⟨isC_out hn h, rfl⟩⟩

set_option maxHeartbeats 4000000 in
set_option maxRecDepth 100000 in
theorem c_laysNow {I : sm_I} {K : KT} (hK : MK I 107 0 K) (hok : okK K) {c : Nat} (hc : c < K.1) : E0 4 mX9_laysNow [.ref 106, .int (nI c)] I (fun r I' => r = none ∧ MC I' K c ∧ frU I I') := by
  have hn := hok.1
  have hq := hok.2 c hc
  have hT := hq.lT
  have hH := hq.lH
  have hw := hq.w
  have hUl : ∀ y, y ≤ 40 → cU K c y ≤ 67200 := fun y hy => hq.lU hy
  obtain ⟨q0, q1, q2, q3, q4, q5, q6, q7⟩ := id hq
  refine E0.of (by decide) (by simp [Value.category]) (Nat.le_of_ble_eq_true rfl) (fun ζ => ?_)
  refine o_aload_n dX9_laysNow_0 rfl rfl ?_
  refine o_iload_n dX9_laysNow_1 rfl rfl ?_
  refine o_aload_n dX9_laysNow_2 rfl rfl ?_
  refine o_iload_n dX9_laysNow_3 rfl rfl ?_
  refine o_iconst (v := nI 3) dX9_laysNow_4 (by decide) ?_
  refine o_callV (as := [.int (nI c), .int (nI 3)]) (st := [.int (nI c), .ref 106]) dX9_laysNow_5 (c_ofK (hK.frM (frM.refl _)) hn hc (by decide)) rfl meX9_of imX9_of seX9_of mlX9_103 sh_106 rfl rfl (by omega) (by decide) (Nat.le_of_ble_eq_true rfl) ?_
  rintro _ _ ⟨rfl, rfl⟩
  refine o_iconst (v := nI 1) dX9_laysNow_8 (by decide) ?_
  refine o_icmpN_ne (tgt := 16) dX9_laysNow_9 (by decide) (by omega) (by omega) (fun b_1 => ?_) (fun b_1 => ?_)
  · refine o_iconst (v := nI 0) dX9_laysNow_16 (by decide) ?_
    refine o_callV (as := [.int (nI c), .int (nI 0)]) (st := []) dX9_laysNow_17 (c_lays0 hok hc (hK.frM (frM.refl _))) rfl meX9_lays imX9_lays seX9_lays mlX9_116 sh_106 rfl rfl (by omega) (by decide) (Nat.le_of_ble_eq_true rfl) ?_
    rintro _ I1 ⟨rfl, hU1, hF1⟩
    exact o_vret dX9_laysNow_20 rfl ⟨rfl, by unfold MC cT cU; rw [show K.2 c 3 = 0 by omega]; exact hU1, hF1⟩
  · refine o_iconst (v := nI 1) dX9_laysNow_12 (by decide) ?_
    refine o_goto (tgt := 17) dX9_laysNow_13 (by decide) ?_
    refine o_callV (as := [.int (nI c), .int (nI 1)]) (st := []) dX9_laysNow_17 (c_lays1 hok hc (hK.frM (frM.refl _))) rfl meX9_lays imX9_lays seX9_lays mlX9_116 sh_106 rfl rfl (by omega) (by decide) (Nat.le_of_ble_eq_true rfl) ?_
    rintro _ I1 ⟨rfl, hU1, hF1⟩
    exact o_vret dX9_laysNow_20 rfl ⟨rfl, by unfold MC cT cU; rw [b_1]; exact hU1, hF1⟩

theorem lp_dipOf {ζ : sm_Z} {d : Nat} {I : sm_I} {Q : Option Value → sm_I → Prop} {u : Nat → Nat} {top n : Nat} (ht : top ≤ 40) (hU : ∀ q, q ≤ top → I 114 q = nI (u q)) (hu : ∀ q, q ≤ top → u q < 2 ^ 31) (hn : n ≤ u top) (hq : Q (some (.int (nI (cg_dip u top n)))) I) : ∀ f y : Nat, y + f = top → cg_dp u n f y = cg_dip u top n → X0 ζ d mX9_dipOf 2 [some (.ref 106), some (.int (nI n)), some (.int (nI y))] [] I Q := by
  have hnl : n < 2 ^ 31 := Nat.lt_of_le_of_lt hn (hu top (Nat.le_refl _))
  intro f
  induction f with
  | zero =>
    intro y hy he
    have hyy : y = top := by omega
    have hul := hu y (by omega)
    have hny : n ≤ u y := by rw [hyy]; exact hn
    rw [cg_dp] at he
    rw [← he] at hq
    refine o_aload_n dX9_dipOf_2 rfl rfl ?_
    refine o_getR (b := 114) dX9_dipOf_3 fgX9_33 sh_106 rfl rfl ?_
    refine o_iload_n dX9_dipOf_6 rfl rfl ?_
    refine o_ialdN (v := nI (u y)) dX9_dipOf_7 sh_114 (by decide) (by omega) (hU y (by omega)) ?_
    refine o_iload_n dX9_dipOf_8 rfl rfl ?_
    refine o_icmpN_ge (tgt := 18) dX9_dipOf_9 (by decide) (by omega) (by omega) (fun b_4 => ?_) (fun b_4 => absurd b_4 (by omega))
    refine o_iload_n dX9_dipOf_18 rfl rfl ?_
    exact o_iret dX9_dipOf_19 rfl hq
  | succ f ih =>
    intro y hy he
    have hul := hu y (by omega)
    rw [cg_dp] at he
    refine o_aload_n dX9_dipOf_2 rfl rfl ?_
    refine o_getR (b := 114) dX9_dipOf_3 fgX9_33 sh_106 rfl rfl ?_
    refine o_iload_n dX9_dipOf_6 rfl rfl ?_
    refine o_ialdN (v := nI (u y)) dX9_dipOf_7 sh_114 (by decide) (by omega) (hU y (by omega)) ?_
    refine o_iload_n dX9_dipOf_8 rfl rfl ?_
    refine o_icmpN_ge (tgt := 18) dX9_dipOf_9 (by decide) (by omega) (by omega) (fun b_3 => ?_) (fun b_3 => ?_)
    · refine o_iload_n dX9_dipOf_18 rfl rfl ?_
      exact o_iret dX9_dipOf_19 rfl (by rw [if_pos (by omega)] at he; rw [← he] at hq; exact hq)
    · refine o_iincN (w := 1) dX9_dipOf_12 rfl (by decide) (by decide) ?_
      refine o_goto (tgt := 2) dX9_dipOf_15 (by decide) ?_
      exact ih (y + 1) (by omega) (by rw [if_neg (by omega)] at he; exact he)
theorem c_dipOf {I : sm_I} {u : Nat → Nat} {top n : Nat} (ht : top ≤ 40) (hU : ∀ q, q ≤ top → I 114 q = nI (u q)) (hu : ∀ q, q ≤ top → u q < 2 ^ 31) (hn : n ≤ u top) : E0 0 mX9_dipOf [.ref 106, .int (nI n)] I (fun r I' => I' = I ∧ r = some (.int (nI (cg_dip u top n)))) := by
  refine E0.of (by decide) (by simp [Value.category]) (Nat.le_of_ble_eq_true rfl) (fun ζ => ?_)
  refine o_iconst (v := nI 0) dX9_dipOf_0 (by decide) ?_
  refine o_istore_n dX9_dipOf_1 rfl (by decide) ?_
  exact lp_dipOf ht hU hu hn ⟨rfl, rfl⟩ top 0 (by omega) rfl

set_option maxHeartbeats 4000000 in
set_option maxRecDepth 100000 in
theorem c_hold {I : sm_I} {K : KT} (hK : MK I 107 0 K) (hok : okK K) {c : Nat} (hc : c < K.1) : E0 5 mX9_hold [.ref 106, .int (nI c)] I (fun r I' => r = some (.int (nI (cH K c))) ∧ MC I' K c ∧ frU I I') := by
  have hn := hok.1
  have hq := hok.2 c hc
  have hT := hq.lT
  have hH := hq.lH
  have hw := hq.w
  have hUl : ∀ y, y ≤ 40 → cU K c y ≤ 67200 := fun y hy => hq.lU hy
  obtain ⟨q0, q1, q2, q3, q4, q5, q6, q7⟩ := id hq
  refine E0.of (by decide) (by simp [Value.category]) (Nat.le_of_ble_eq_true rfl) (fun ζ => ?_)
  refine o_aload_n dX9_hold_0 rfl rfl ?_
  refine o_iload_n dX9_hold_1 rfl rfl ?_
  refine o_callV (as := [.int (nI c)]) (st := []) dX9_hold_2 (c_laysNow (hK.frM (frM.refl _)) hok hc) rfl meX9_laysNow imX9_laysNow seX9_laysNow mlX9_120 sh_106 rfl rfl (by omega) (by decide) (Nat.le_of_ble_eq_true rfl) ?_
  rintro _ I1 ⟨rfl, hU1, hF1⟩
  refine o_aload_n dX9_hold_5 rfl rfl ?_
  refine o_getR (b := 114) dX9_hold_6 fgX9_33 sh_106 rfl rfl ?_
  refine o_aload_n dX9_hold_9 rfl rfl ?_
  refine o_getI (v := nI (cT K c)) dX9_hold_10 fgX9_109 sh_106 rfl hU1.1 ?_
  refine o_ialdN (v := nI (cU K c (cT K c))) dX9_hold_13 sh_114 (by decide) (by omega) (hU1.2 (cT K c) (by omega)) ?_
  exact o_iret dX9_hold_14 rfl ⟨rfl, hU1, hF1⟩

set_option maxHeartbeats 4000000 in
set_option maxRecDepth 100000 in
theorem c_isHeight {I : sm_I} {K : KT} (hK : MK I 107 0 K) (hok : okK K) (c y : Int32) : E0 5 mX9_isHeight [.ref 106, .int c, .int y] I (fun r I' => frM I I' ∧ ((∃ j q, j < K.1 ∧ c = nI j ∧ q ≤ cT K j ∧ y = nI q ∧ MC I' K j ∧ sp_h K c y = some (j, q) ∧ r = some (.int (nI 1))) ∨ (sp_h K c y = none ∧ r = some (.int (nI 0))))) := by
  have hn := hok.1
  refine E0.of (by decide) (by simp [Value.category]) (Nat.le_of_ble_eq_true rfl) (fun ζ => ?_)
  refine o_aload_n dX9_isHeight_0 rfl rfl ?_
  refine o_iload_n dX9_isHeight_1 rfl rfl ?_
  refine o_callV (as := [.int c]) (st := []) dX9_isHeight_2 (c_isCask (hK.frM (frM.refl _)) hok c) rfl meX9_isCask imX9_isCask seX9_isCask mlX9_127 sh_106 rfl rfl (by omega) (by decide) (Nat.le_of_ble_eq_true rfl) ?_
  rintro _ _ ⟨rfl, ⟨j, hj, rfl, rfl⟩ | ⟨hno, rfl⟩⟩
  · refine o_ifN_ne (tgt := 10) dX9_isHeight_5 (by decide) (by omega) (fun b_5 => ?_) (fun b_5 => absurd b_5 (by omega))
    refine o_aload_n dX9_isHeight_10 rfl rfl ?_
    refine o_iload_n dX9_isHeight_11 rfl rfl ?_
    refine o_callV (as := [.int (nI j)]) (st := []) dX9_isHeight_12 (c_laysNow (hK.frM (frM.refl _)) hok hj) rfl meX9_laysNow imX9_laysNow seX9_laysNow mlX9_120 sh_106 rfl rfl (by omega) (by decide) (Nat.le_of_ble_eq_true rfl) ?_
    rintro _ I1 ⟨rfl, hU1, hF1⟩
    have hq := hok.2 j hj
    have hT := hq.lT
    have hH := hq.lH
    have hw := hq.w
    have hUl : ∀ y, y ≤ 40 → cU K j y ≤ 67200 := fun y hy => hq.lU hy
    obtain ⟨q0, q1, q2, q3, q4, q5, q6, q7⟩ := id hq
    refine o_iload_n dX9_isHeight_15 rfl rfl ?_
    refine o_iconst (v := nI 0) dX9_isHeight_16 (by decide) ?_
    refine o_aload_n dX9_isHeight_17 rfl rfl ?_
    refine o_getI (v := nI (cT K j)) dX9_isHeight_18 fgX9_109 sh_106 rfl hU1.1 ?_
    refine o_callS (as := [.int y, .int (nI 0), .int (nI (cT K j))]) (st := []) dX9_isHeight_21 (c_in _ _ _ _) rfl meX9_in ssX9_in mlX9_43 (by omega) (by decide) (Nat.le_of_ble_eq_true rfl) ?_
    rintro _ _ ⟨rfl, ⟨hpa, hpb, rfl⟩ | ⟨hno2, rfl⟩⟩
    · obtain ⟨p, hp1, hp2, rfl⟩ := in_nat (by omega) (by omega) hpa hpb
      exact o_zret dX9_isHeight_24 rfl (by decide) ⟨((frM.refl _).trans hF1.M), Or.inl ⟨j, p, hj, rfl, hp2, rfl, hU1, by simp only [sp_h, cg_ix_some hj (by omega : K.1 ≤ 2 ^ 31), cg_in_some hp1 hp2 (by omega : cT K j < 2 ^ 31)], rfl⟩⟩
    · exact o_zret dX9_isHeight_24 rfl (by decide) ⟨((frM.refl _).trans hF1.M), Or.inr ⟨by simp only [sp_h, cg_ix_some hj (by omega : K.1 ≤ 2 ^ 31), cg_in_none (by omega) (by omega : cT K j < 2 ^ 31) hno2], rfl⟩⟩
  · refine o_ifN_ne (tgt := 10) dX9_isHeight_5 (by decide) (by omega) (fun b_6 => absurd b_6 (by omega)) (fun b_6 => ?_)
    refine o_iconst (v := nI 0) dX9_isHeight_8 (by decide) ?_
    exact o_zret dX9_isHeight_9 rfl (by decide) ⟨frM.refl _, Or.inr ⟨by simp only [sp_h, hno], rfl⟩⟩

set_option maxHeartbeats 4000000 in
set_option maxRecDepth 100000 in
theorem m_under {I : sm_I} {K : KT} (hK : MK I 107 0 K) (hok : okK K) (c y : Int32) : E0 6 mX9_under [.ref 106, .int c, .int y] I (fun r I' => r = some (.int (sp_under K c y)) ∧ frM I I') := by
  have hn := hok.1
  refine E0.of (by decide) (by simp [Value.category]) (Nat.le_of_ble_eq_true rfl) (fun ζ => ?_)
  refine o_aload_n dX9_under_0 rfl rfl ?_
  refine o_iconst (v := nI 0) dX9_under_1 (by decide) ?_
  refine o_putI dX9_under_2 flX9_39 sh_106 rfl ?_
  refine o_aload_n dX9_under_5 rfl rfl ?_
  refine o_iload_n dX9_under_6 rfl rfl ?_
  refine o_iload_n dX9_under_7 rfl rfl ?_
  refine o_callV (as := [.int c, .int y]) (st := []) dX9_under_8 (c_isHeight (hK.frM ((frM.refl _).trans (frM.scr (by unfold mn; omega)))) hok c y) rfl meX9_isHeight imX9_isHeight seX9_isHeight mlX9_145 sh_106 rfl rfl (by omega) (by decide) (Nat.le_of_ble_eq_true rfl) ?_
  rintro _ I1 ⟨hF1, ⟨j, q, hj, rfl, hq0, rfl, hU1, hsp, rfl⟩ | ⟨hsp, rfl⟩⟩
  · have hq := hok.2 j hj
    have hT := hq.lT
    have hH := hq.lH
    have hw := hq.w
    have hUl : ∀ y, y ≤ 40 → cU K j y ≤ 67200 := fun y hy => hq.lU hy
    obtain ⟨q0, q1, q2, q3, q4, q5, q6, q7⟩ := id hq
    refine o_ifN_eq (tgt := 23) dX9_under_11 (by decide) (by omega) (fun b_7 => absurd b_7 (by omega)) (fun b_7 => ?_)
    refine o_aload_n dX9_under_14 rfl rfl ?_
    refine o_getR (b := 114) dX9_under_15 fgX9_33 sh_106 rfl rfl ?_
    refine o_iload_n dX9_under_18 rfl rfl ?_
    refine o_ialdN (v := nI (cU K j q)) dX9_under_19 sh_114 (by decide) (by omega) (hU1.2 q (by omega)) ?_
    refine o_goto (tgt := 24) dX9_under_20 (by decide) ?_
    exact o_iret dX9_under_24 rfl ⟨by simp only [sp_under, hsp], (((frM.refl _).trans (frM.scr (by unfold mn; omega))).trans hF1)⟩
  · refine o_ifN_eq (tgt := 23) dX9_under_11 (by decide) (by omega) (fun b_8 => ?_) (fun b_8 => absurd b_8 (by omega))
    refine o_iconst (v := (-1)) dX9_under_23 (by decide) ?_
    exact o_iret dX9_under_24 rfl ⟨by simp only [sp_under, hsp], (((frM.refl _).trans (frM.scr (by unfold mn; omega))).trans hF1)⟩

set_option maxHeartbeats 4000000 in
set_option maxRecDepth 100000 in
theorem m_dip {I : sm_I} {K : KT} (hK : MK I 107 0 K) (hok : okK K) (c n : Int32) : E0 6 mX9_dip [.ref 106, .int c, .int n] I (fun r I' => r = some (.int (sp_dip K c n)) ∧ frM I I') := by
  have hn := hok.1
  refine E0.of (by decide) (by simp [Value.category]) (Nat.le_of_ble_eq_true rfl) (fun ζ => ?_)
  refine o_aload_n dX9_dip_0 rfl rfl ?_
  refine o_iconst (v := nI 0) dX9_dip_1 (by decide) ?_
  refine o_putI dX9_dip_2 flX9_39 sh_106 rfl ?_
  refine o_aload_n dX9_dip_5 rfl rfl ?_
  refine o_iload_n dX9_dip_6 rfl rfl ?_
  refine o_callV (as := [.int c]) (st := []) dX9_dip_7 (c_isCask (hK.frM ((frM.refl _).trans (frM.scr (by unfold mn; omega)))) hok c) rfl meX9_isCask imX9_isCask seX9_isCask mlX9_127 sh_106 rfl rfl (by omega) (by decide) (Nat.le_of_ble_eq_true rfl) ?_
  rintro _ _ ⟨rfl, ⟨j, hj, rfl, rfl⟩ | ⟨hno, rfl⟩⟩
  · refine o_ifN_eq (tgt := 34) dX9_dip_10 (by decide) (by omega) (fun b_9 => absurd b_9 (by omega)) (fun b_9 => ?_)
    refine o_iload_n dX9_dip_13 rfl rfl ?_
    refine o_iconst (v := nI 0) dX9_dip_14 (by decide) ?_
    refine o_aload_n dX9_dip_15 rfl rfl ?_
    refine o_iload_n dX9_dip_16 rfl rfl ?_
    refine o_callV (as := [.int (nI j)]) (st := [.int (nI 0), .int n]) dX9_dip_17 (c_hold (hK.frM ((frM.refl _).trans (frM.scr (by unfold mn; omega)))) hok hj) rfl meX9_hold imX9_hold seX9_hold mlX9_131 sh_106 rfl rfl (by omega) (by decide) (Nat.le_of_ble_eq_true rfl) ?_
    rintro _ I1 ⟨rfl, hU1, hF1⟩
    have hq := hok.2 j hj
    have hT := hq.lT
    have hH := hq.lH
    have hw := hq.w
    have hUl : ∀ y, y ≤ 40 → cU K j y ≤ 67200 := fun y hy => hq.lU hy
    obtain ⟨q0, q1, q2, q3, q4, q5, q6, q7⟩ := id hq
    refine o_callS (as := [.int n, .int (nI 0), .int (nI (cH K j))]) (st := []) dX9_dip_20 (c_in _ _ _ _) rfl meX9_in ssX9_in mlX9_43 (by omega) (by decide) (Nat.le_of_ble_eq_true rfl) ?_
    rintro _ _ ⟨rfl, ⟨hpa, hpb, rfl⟩ | ⟨hno2, rfl⟩⟩
    · obtain ⟨p, hp1, hp2, rfl⟩ := in_nat (by omega) (by omega) hpa hpb
      refine o_ifN_eq (tgt := 34) dX9_dip_23 (by decide) (by omega) (fun b_10 => absurd b_10 (by omega)) (fun b_10 => ?_)
      refine o_aload_n dX9_dip_26 rfl rfl ?_
      refine o_iload_n dX9_dip_27 rfl rfl ?_
      refine o_callV (as := [.int (nI p)]) (st := []) dX9_dip_28 (c_dipOf (u := cU K j) (top := cT K j) hT hU1.2 (fun q hq => by have := hUl q (by omega); omega) (by first | exact hp2 | omega)) rfl meX9_dipOf imX9_dipOf seX9_dipOf mlX9_137 sh_106 rfl rfl (by omega) (by decide) (Nat.le_of_ble_eq_true rfl) ?_
      rintro _ _ ⟨rfl, rfl⟩
      refine o_goto (tgt := 35) dX9_dip_31 (by decide) ?_
      exact o_iret dX9_dip_35 rfl ⟨by simp only [sp_dip, cg_ix_some hj (by omega : K.1 ≤ 2 ^ 31), cg_in_some hp1 hp2 (by omega : cH K j < 2 ^ 31)], (((frM.refl _).trans (frM.scr (by unfold mn; omega))).trans hF1.M)⟩
    · refine o_ifN_eq (tgt := 34) dX9_dip_23 (by decide) (by omega) (fun b_11 => ?_) (fun b_11 => absurd b_11 (by omega))
      refine o_iconst (v := (-1)) dX9_dip_34 (by decide) ?_
      exact o_iret dX9_dip_35 rfl ⟨by simp only [sp_dip, cg_ix_some hj (by omega : K.1 ≤ 2 ^ 31), cg_in_none (by omega) (by omega : cH K j < 2 ^ 31) hno2], (((frM.refl _).trans (frM.scr (by unfold mn; omega))).trans hF1.M)⟩
  · refine o_ifN_eq (tgt := 34) dX9_dip_10 (by decide) (by omega) (fun b_12 => ?_) (fun b_12 => absurd b_12 (by omega))
    refine o_iconst (v := (-1)) dX9_dip_34 (by decide) ?_
    exact o_iret dX9_dip_35 rfl ⟨by simp only [sp_dip, hno], ((frM.refl _).trans (frM.scr (by unfold mn; omega)))⟩

theorem lp_stick {ζ : sm_Z} {d : Nat} {I : sm_I} {Q : Option Value → sm_I → Prop} {u : Nat → Nat} {top n t : Nat} {a1 a3 : Option Value} (ht : top ≤ 40) (hU : ∀ q, q ≤ top → I 114 q = nI (u q)) (hu : ∀ q, q ≤ top → u q * n < 2 ^ 31) (hn : t ≤ u top * n) (hq : Q (some (.int (nI (cg_dip (fun y => u y * n) top t)))) I) : ∀ f y : Nat, y + f = top → cg_dp (fun y => u y * n) t f y = cg_dip (fun y => u y * n) top t → X0 ζ d mX9_stick 46 [some (.ref 106), a1, some (.int (nI n)), a3, some (.int (nI t)), some (.int (nI y))] [] I Q := by
  have htl : t < 2 ^ 31 := Nat.lt_of_le_of_lt hn (hu top (Nat.le_refl _))
  intro f
  induction f with
  | zero =>
    intro y hy he
    have hyy : y = top := by omega
    have hul := hu y (by omega)
    have hny : t ≤ u y * n := by rw [hyy]; exact hn
    rw [cg_dp] at he
    rw [← he] at hq
    refine o_aload_n dX9_stick_46 rfl rfl ?_
    refine o_getR (b := 114) dX9_stick_47 fgX9_33 sh_106 rfl rfl ?_
    refine o_iload dX9_stick_50 rfl ?_
    refine o_ialdN (v := nI (u y)) dX9_stick_52 sh_114 (by decide) (by omega) (hU y (by omega)) ?_
    refine o_iload_n dX9_stick_53 rfl rfl ?_
    refine o_imulN dX9_stick_54 ?_
    refine o_iload dX9_stick_55 rfl ?_
    refine o_icmpN_ge (tgt := 66) dX9_stick_57 (by decide) (by omega) (by omega) (fun b_13 => ?_) (fun b_13 => absurd b_13 (by omega))
    refine o_iload dX9_stick_66 rfl ?_
    exact o_iret dX9_stick_68 rfl hq
  | succ f ih =>
    intro y hy he
    have hul := hu y (by omega)
    rw [cg_dp] at he
    refine o_aload_n dX9_stick_46 rfl rfl ?_
    refine o_getR (b := 114) dX9_stick_47 fgX9_33 sh_106 rfl rfl ?_
    refine o_iload dX9_stick_50 rfl ?_
    refine o_ialdN (v := nI (u y)) dX9_stick_52 sh_114 (by decide) (by omega) (hU y (by omega)) ?_
    refine o_iload_n dX9_stick_53 rfl rfl ?_
    refine o_imulN dX9_stick_54 ?_
    refine o_iload dX9_stick_55 rfl ?_
    refine o_icmpN_ge (tgt := 66) dX9_stick_57 (by decide) (by omega) (by omega) (fun b_14 => ?_) (fun b_14 => ?_)
    · refine o_iload dX9_stick_66 rfl ?_
      exact o_iret dX9_stick_68 rfl (by rw [if_pos (by omega)] at he; rw [← he] at hq; exact hq)
    · refine o_iincN (w := 1) dX9_stick_60 rfl (by decide) (by decide) ?_
      refine o_goto (tgt := 46) dX9_stick_63 (by decide) ?_
      exact ih (y + 1) (by omega) (by rw [if_neg (by omega)] at he; exact he)

set_option maxHeartbeats 4000000 in
set_option maxRecDepth 100000 in
theorem m_stick {I : sm_I} {K : KT} (hK : MK I 107 0 K) (hok : okK K) (c n k : Int32) : E0 6 mX9_stick [.ref 106, .int c, .int n, .int k] I (fun r I' => r = some (.int (sp_stick K c n k)) ∧ frM I I') := by
  have hn := hok.1
  refine E0.of (by decide) (by simp [Value.category]) (Nat.le_of_ble_eq_true rfl) (fun ζ => ?_)
  refine o_aload_n dX9_stick_0 rfl rfl ?_
  refine o_iconst (v := nI 0) dX9_stick_1 (by decide) ?_
  refine o_putI dX9_stick_2 flX9_39 sh_106 rfl ?_
  refine o_aload_n dX9_stick_5 rfl rfl ?_
  refine o_iload_n dX9_stick_6 rfl rfl ?_
  refine o_callV (as := [.int c]) (st := []) dX9_stick_7 (c_isCask (hK.frM ((frM.refl _).trans (frM.scr (by unfold mn; omega)))) hok c) rfl meX9_isCask imX9_isCask seX9_isCask mlX9_127 sh_106 rfl rfl (by omega) (by decide) (Nat.le_of_ble_eq_true rfl) ?_
  rintro _ _ ⟨rfl, ⟨j, hj, rfl, rfl⟩ | ⟨hno, rfl⟩⟩
  · refine o_ifN_eq (tgt := 32) dX9_stick_10 (by decide) (by omega) (fun b_15 => absurd b_15 (by omega)) (fun b_15 => ?_)
    refine o_iload_n dX9_stick_13 rfl rfl ?_
    refine o_iconst (v := nI 2) dX9_stick_14 (by decide) ?_
    refine o_bipush (v := nI 9) dX9_stick_15 (by decide) ?_
    refine o_callS (as := [.int n, .int (nI 2), .int (nI 9)]) (st := []) dX9_stick_17 (c_in _ _ _ _) rfl meX9_in ssX9_in mlX9_43 (by omega) (by decide) (Nat.le_of_ble_eq_true rfl) ?_
    rintro _ _ ⟨rfl, ⟨hpa, hpb, rfl⟩ | ⟨hno2, rfl⟩⟩
    · obtain ⟨p, hp1, hp2, rfl⟩ := in_nat (by omega) (by omega) hpa hpb
      refine o_ifN_eq (tgt := 32) dX9_stick_20 (by decide) (by omega) (fun b_16 => absurd b_16 (by omega)) (fun b_16 => ?_)
      refine o_iload_n dX9_stick_23 rfl rfl ?_
      refine o_iconst (v := nI 1) dX9_stick_24 (by decide) ?_
      refine o_iload_n dX9_stick_25 rfl rfl ?_
      refine o_callS (as := [.int k, .int (nI 1), .int (nI p)]) (st := []) dX9_stick_26 (c_in _ _ _ _) rfl meX9_in ssX9_in mlX9_43 (by omega) (by decide) (Nat.le_of_ble_eq_true rfl) ?_
      rintro _ _ ⟨rfl, ⟨hea, heb, rfl⟩ | ⟨hno3, rfl⟩⟩
      · obtain ⟨e, he1, he2, rfl⟩ := in_nat (by omega) (by omega) hea heb
        refine o_ifN_ne (tgt := 34) dX9_stick_29 (by decide) (by omega) (fun b_17 => ?_) (fun b_17 => absurd b_17 (by omega))
        refine o_aload_n dX9_stick_34 rfl rfl ?_
        refine o_iload_n dX9_stick_35 rfl rfl ?_
        refine o_callV (as := [.int (nI j)]) (st := []) dX9_stick_36 (c_hold (hK.frM ((frM.refl _).trans (frM.scr (by unfold mn; omega)))) hok hj) rfl meX9_hold imX9_hold seX9_hold mlX9_131 sh_106 rfl rfl (by omega) (by decide) (Nat.le_of_ble_eq_true rfl) ?_
        rintro _ I1 ⟨rfl, hU1, hF1⟩
        have hq := hok.2 j hj
        have hT := hq.lT
        have hH := hq.lH
        have hw := hq.w
        have hUl : ∀ y, y ≤ 40 → cU K j y ≤ 67200 := fun y hy => hq.lU hy
        obtain ⟨q0, q1, q2, q3, q4, q5, q6, q7⟩ := id hq
        refine o_iload_n dX9_stick_39 rfl rfl ?_
        refine o_imulN dX9_stick_40 ?_
        refine o_istore dX9_stick_41 (by decide) ?_
        refine o_iconst (v := nI 0) dX9_stick_43 (by decide) ?_
        refine o_istore dX9_stick_44 (by decide) ?_
        have hmul : ∀ q, q ≤ cT K j → cU K j q * p < 2 ^ 31 := fun q hq => by have h1 := hUl q (by omega); have h2 : cU K j q * p ≤ 67200 * 9 := Nat.mul_le_mul h1 (by omega); omega
        exact lp_stick (u := cU K j) (t := cH K j * e) hT hU1.2 hmul (Nat.mul_le_mul_left _ (by omega)) ⟨by simp only [sp_stick, cg_ix_some hj (by omega : K.1 ≤ 2 ^ 31), cg_in_some hp1 hp2 (by omega : (9 : Nat) < 2 ^ 31), cg_in_some he1 he2 (by omega : p < 2 ^ 31)], (((frM.refl _).trans (frM.scr (by unfold mn; omega))).trans hF1.M)⟩ (cT K j) 0 (by omega) rfl
      · refine o_ifN_ne (tgt := 34) dX9_stick_29 (by decide) (by omega) (fun b_18 => absurd b_18 (by omega)) (fun b_18 => ?_)
        refine o_iconst (v := (-1)) dX9_stick_32 (by decide) ?_
        exact o_iret dX9_stick_33 rfl ⟨by simp only [sp_stick, cg_ix_some hj (by omega : K.1 ≤ 2 ^ 31), cg_in_some hp1 hp2 (by omega : (9 : Nat) < 2 ^ 31), cg_in_none (by omega) (by omega : p < 2 ^ 31) hno3], ((frM.refl _).trans (frM.scr (by unfold mn; omega)))⟩
    · refine o_ifN_eq (tgt := 32) dX9_stick_20 (by decide) (by omega) (fun b_19 => ?_) (fun b_19 => absurd b_19 (by omega))
      refine o_iconst (v := (-1)) dX9_stick_32 (by decide) ?_
      exact o_iret dX9_stick_33 rfl ⟨by simp only [sp_stick, cg_ix_some hj (by omega : K.1 ≤ 2 ^ 31), cg_in_none (by omega) (by omega : (9 : Nat) < 2 ^ 31) hno2], ((frM.refl _).trans (frM.scr (by unfold mn; omega)))⟩
  · refine o_ifN_eq (tgt := 32) dX9_stick_10 (by decide) (by omega) (fun b_20 => ?_) (fun b_20 => absurd b_20 (by omega))
    refine o_iconst (v := (-1)) dX9_stick_32 (by decide) ?_
    exact o_iret dX9_stick_33 rfl ⟨by simp only [sp_stick, hno], ((frM.refl _).trans (frM.scr (by unfold mn; omega)))⟩

set_option maxHeartbeats 4000000 in
set_option maxRecDepth 100000 in
theorem m_known {I : sm_I} {K : KT} (hK : MK I 107 0 K) (hok : okK K) (c y w : Int32) : E0 6 mX9_known [.ref 106, .int c, .int y, .int w] I (fun r I' => r = some (.int (sp_known K c y w)) ∧ frM I I') := by
  have hn := hok.1
  refine E0.of (by decide) (by simp [Value.category]) (Nat.le_of_ble_eq_true rfl) (fun ζ => ?_)
  refine o_aload_n dX9_known_0 rfl rfl ?_
  refine o_iconst (v := nI 0) dX9_known_1 (by decide) ?_
  refine o_putI dX9_known_2 flX9_39 sh_106 rfl ?_
  refine o_aload_n dX9_known_5 rfl rfl ?_
  refine o_iload_n dX9_known_6 rfl rfl ?_
  refine o_iload_n dX9_known_7 rfl rfl ?_
  refine o_callV (as := [.int c, .int y]) (st := []) dX9_known_8 (c_isHeight (hK.frM ((frM.refl _).trans (frM.scr (by unfold mn; omega)))) hok c y) rfl meX9_isHeight imX9_isHeight seX9_isHeight mlX9_145 sh_106 rfl rfl (by omega) (by decide) (Nat.le_of_ble_eq_true rfl) ?_
  rintro _ I1 ⟨hF1, ⟨j, q, hj, rfl, hq0, rfl, hU1, hsp, rfl⟩ | ⟨hsp, rfl⟩⟩
  · have hq := hok.2 j hj
    have hT := hq.lT
    have hH := hq.lH
    have hw := hq.w
    have hUl : ∀ y, y ≤ 40 → cU K j y ≤ 67200 := fun y hy => hq.lU hy
    obtain ⟨q0, q1, q2, q3, q4, q5, q6, q7⟩ := id hq
    refine o_ifN_eq (tgt := 23) dX9_known_11 (by decide) (by omega) (fun b_21 => absurd b_21 (by omega)) (fun b_21 => ?_)
    refine o_iload_n dX9_known_14 rfl rfl ?_
    refine o_iconst (v := nI 0) dX9_known_15 (by decide) ?_
    refine o_iconst (v := nI 1) dX9_known_16 (by decide) ?_
    refine o_callS (as := [.int w, .int (nI 0), .int (nI 1)]) (st := []) dX9_known_17 (c_in _ _ _ _) rfl meX9_in ssX9_in mlX9_43 (by omega) (by decide) (Nat.le_of_ble_eq_true rfl) ?_
    rintro _ _ ⟨rfl, ⟨hpa, hpb, rfl⟩ | ⟨hno2, rfl⟩⟩
    · obtain ⟨p, hp1, hp2, rfl⟩ := in_nat (by omega) (by omega) hpa hpb
      refine o_ifN_ne (tgt := 25) dX9_known_20 (by decide) (by omega) (fun b_22 => ?_) (fun b_22 => absurd b_22 (by omega))
      refine o_iload_n dX9_known_25 rfl rfl ?_
      refine o_ifN_ne (tgt := 33) dX9_known_26 (by decide) (by omega) (fun b_23 => ?_) (fun b_23 => ?_)
      · refine o_aload_n dX9_known_33 rfl rfl ?_
        refine o_getR (b := 114) dX9_known_34 fgX9_33 sh_106 rfl rfl ?_
        refine o_iload_n dX9_known_37 rfl rfl ?_
        refine o_iconst (v := nI 1) dX9_known_38 (by decide) ?_
        refine o_isubN dX9_known_39 (by omega) ?_
        refine o_ialdN (v := nI (cU K j (q - 1))) dX9_known_40 sh_114 (by decide) (by omega) (hU1.2 (q - 1) (by omega)) ?_
        refine o_iconst (v := nI 1) dX9_known_41 (by decide) ?_
        refine o_iaddN dX9_known_42 ?_
        refine o_istore dX9_known_43 (by decide) ?_
        have hA := hUl q (by omega)
        have hB := hUl (q - 1) (by omega)
        refine o_iload dX9_known_45 rfl ?_
        refine o_aload_n dX9_known_47 rfl rfl ?_
        refine o_getR (b := 114) dX9_known_48 fgX9_33 sh_106 rfl rfl ?_
        refine o_iload_n dX9_known_51 rfl rfl ?_
        refine o_ialdN (v := nI (cU K j q)) dX9_known_52 sh_114 (by decide) (by omega) (hU1.2 q (by omega)) ?_
        refine o_icmpN_le (tgt := 61) dX9_known_53 (by decide) (by omega) (by omega) (fun b_24 => ?_) (fun b_24 => ?_)
        · refine o_iload_n dX9_known_61 rfl rfl ?_
          refine o_ifN_ne (tgt := 70) dX9_known_62 (by decide) (by omega) (fun b_25 => ?_) (fun b_25 => ?_)
          · refine o_aload_n dX9_known_70 rfl rfl ?_
            refine o_getR (b := 114) dX9_known_71 fgX9_33 sh_106 rfl rfl ?_
            refine o_iload_n dX9_known_74 rfl rfl ?_
            refine o_ialdN (v := nI (cU K j q)) dX9_known_75 sh_114 (by decide) (by omega) (hU1.2 q (by omega)) ?_
            exact o_iret dX9_known_76 rfl ⟨by simp only [sp_known, hsp, cg_in_some hp1 hp2 (by omega : (1 : Nat) < 2 ^ 31), if_neg (show ¬ q = 0 by omega), if_neg (show ¬ cU K j q < cU K j (q - 1) + 1 by omega), if_neg (show ¬ p = 0 by omega)], (((frM.refl _).trans (frM.scr (by unfold mn; omega))).trans hF1)⟩
          · refine o_iload dX9_known_65 rfl ?_
            refine o_goto (tgt := 76) dX9_known_67 (by decide) ?_
            exact o_iret dX9_known_76 rfl ⟨by simp only [sp_known, hsp, cg_in_some hp1 hp2 (by omega : (1 : Nat) < 2 ^ 31), if_neg (show ¬ q = 0 by omega), if_neg (show ¬ cU K j q < cU K j (q - 1) + 1 by omega), if_pos (show p = 0 by omega)], (((frM.refl _).trans (frM.scr (by unfold mn; omega))).trans hF1)⟩
        · refine o_bipush (v := (-9)) dX9_known_56 (by decide) ?_
          refine o_goto (tgt := 76) dX9_known_58 (by decide) ?_
          exact o_iret dX9_known_76 rfl ⟨by simp only [sp_known, hsp, cg_in_some hp1 hp2 (by omega : (1 : Nat) < 2 ^ 31), if_neg (show ¬ q = 0 by omega), if_pos (show cU K j q < cU K j (q - 1) + 1 by omega)], (((frM.refl _).trans (frM.scr (by unfold mn; omega))).trans hF1)⟩
      · refine o_iconst (v := nI 0) dX9_known_29 (by decide) ?_
        refine o_goto (tgt := 43) dX9_known_30 (by decide) ?_
        refine o_istore dX9_known_43 (by decide) ?_
        have hA := hUl q (by omega)
        have hB := hUl (q - 1) (by omega)
        refine o_iload dX9_known_45 rfl ?_
        refine o_aload_n dX9_known_47 rfl rfl ?_
        refine o_getR (b := 114) dX9_known_48 fgX9_33 sh_106 rfl rfl ?_
        refine o_iload_n dX9_known_51 rfl rfl ?_
        refine o_ialdN (v := nI (cU K j q)) dX9_known_52 sh_114 (by decide) (by omega) (hU1.2 q (by omega)) ?_
        refine o_icmpN_le (tgt := 61) dX9_known_53 (by decide) (by omega) (by omega) (fun b_26 => ?_) (fun b_26 => ?_)
        · refine o_iload_n dX9_known_61 rfl rfl ?_
          refine o_ifN_ne (tgt := 70) dX9_known_62 (by decide) (by omega) (fun b_27 => ?_) (fun b_27 => ?_)
          · refine o_aload_n dX9_known_70 rfl rfl ?_
            refine o_getR (b := 114) dX9_known_71 fgX9_33 sh_106 rfl rfl ?_
            refine o_iload_n dX9_known_74 rfl rfl ?_
            refine o_ialdN (v := nI (cU K j q)) dX9_known_75 sh_114 (by decide) (by omega) (hU1.2 q (by omega)) ?_
            exact o_iret dX9_known_76 rfl ⟨by simp only [sp_known, hsp, cg_in_some hp1 hp2 (by omega : (1 : Nat) < 2 ^ 31), if_pos (show q = 0 by omega), if_neg (show ¬ cU K j q < 0 by omega), if_neg (show ¬ p = 0 by omega)], (((frM.refl _).trans (frM.scr (by unfold mn; omega))).trans hF1)⟩
          · refine o_iload dX9_known_65 rfl ?_
            refine o_goto (tgt := 76) dX9_known_67 (by decide) ?_
            exact o_iret dX9_known_76 rfl ⟨by simp only [sp_known, hsp, cg_in_some hp1 hp2 (by omega : (1 : Nat) < 2 ^ 31), if_pos (show q = 0 by omega), if_neg (show ¬ cU K j q < 0 by omega), if_pos (show p = 0 by omega)], (((frM.refl _).trans (frM.scr (by unfold mn; omega))).trans hF1)⟩
        · refine o_bipush (v := (-9)) dX9_known_56 (by decide) ?_
          refine o_goto (tgt := 76) dX9_known_58 (by decide) ?_
          exact o_iret dX9_known_76 rfl ⟨by simp only [sp_known, hsp, cg_in_some hp1 hp2 (by omega : (1 : Nat) < 2 ^ 31), if_pos (show q = 0 by omega), if_pos (show cU K j q < 0 by omega)], (((frM.refl _).trans (frM.scr (by unfold mn; omega))).trans hF1)⟩
    · refine o_ifN_ne (tgt := 25) dX9_known_20 (by decide) (by omega) (fun b_28 => absurd b_28 (by omega)) (fun b_28 => ?_)
      refine o_iconst (v := (-1)) dX9_known_23 (by decide) ?_
      exact o_iret dX9_known_24 rfl ⟨by simp only [sp_known, hsp, cg_in_none (by omega) (by omega : (1 : Nat) < 2 ^ 31) hno2], (((frM.refl _).trans (frM.scr (by unfold mn; omega))).trans hF1)⟩
  · refine o_ifN_eq (tgt := 23) dX9_known_11 (by decide) (by omega) (fun b_29 => ?_) (fun b_29 => absurd b_29 (by omega))
    refine o_iconst (v := (-1)) dX9_known_23 (by decide) ?_
    exact o_iret dX9_known_24 rfl ⟨by simp only [sp_known, hsp], (((frM.refl _).trans (frM.scr (by unfold mn; omega))).trans hF1)⟩
end
section
/-! ===== what is done ===== -/
theorem cg_hold_le2 {S H B : Nat} (hS : S ≤ 12) (hB : B ≤ 20) : cg_hold S H B 1 ≤ 20160 := by
  unfold cg_hold cg_U
  have h1 := cg_sum_le (f := cg_row S H B 1) (b := 504) (cg_top S B 1) (fun y _ => by
    have := cg_sum_le (f := fun k => cg_cell S H B k y) S (fun k _ => cg_cell_le S H B k y)
    unfold cg_row
    rw [if_pos rfl]
    omega)
  have h2 := cg_top_le (l := 1) hS hB
  have h3 : cg_top S B 1 * 504 ≤ 40 * 504 := Nat.mul_le_mul_right _ h2
  omega
theorem okc.l2 {K : KT} {c : Nat} (h : okc (K.2 c)) : cH K c ≤ 20160 := by
  rw [show cH K c = cg_hold (K.2 c 0) (K.2 c 1) (K.2 c 2) 1 from cg_hold_one _ _ _ h.2.2.2.2.2.1]
  exact cg_hold_le2 h.2.1 h.2.2.2.2.1
def kset (K : KT) (c f v : Nat) : KT := (K.1, fun c' f' => if c' = c ∧ f' = f then v else K.2 c' f')
theorem kset_1 {K : KT} {c f v : Nat} : (kset K c f v).1 = K.1 := rfl
theorem kset_s {K : KT} {c f v : Nat} : (kset K c f v).2 c f = v := by simp [kset]
theorem kset_x {K : KT} {c f v c' f' : Nat} (h : ¬ (c' = c ∧ f' = f)) : (kset K c f v).2 c' f' = K.2 c' f' := by simp only [kset, if_neg h]
theorem MK.put {I : sm_I} {K : KT} (h : MK I 107 0 K) (hn : K.1 ≤ 4) {c f v : Nat} (hc : c < K.1) (hf : f < 6) : MK (up2 I 107 (6 * c + f) (nI v)) 107 0 (kset K c f v) := by
  refine ⟨(up2_x (by omega)).trans h.1, fun c' f' hc' hf' => ?_⟩
  have hc'' : c' < K.1 := hc'
  by_cases hx : c' = c ∧ f' = f
  · obtain ⟨rfl, rfl⟩ := hx
    rw [Nat.zero_add, up2_s, kset_s]
  · rw [kset_x hx, Nat.zero_add]
    refine (up2_x ?_).trans (h.at0 hc'' hf')
    rintro ⟨-, h2⟩
    apply hx
    omega
theorem CK.put {I : sm_I} {K : KT} {a : Nat} (h : CK I a K) {c f v : Nat} : CK (up2 I (a + 2 + c) f (nI v)) a (kset K c f v) := by
  refine ⟨(up2_x (by omega)).trans h.1, fun c' f' hc' hf' => ?_⟩
  by_cases hx : c' = c ∧ f' = f
  · obtain ⟨rfl, rfl⟩ := hx
    rw [up2_s, kset_s]
  · rw [kset_x hx]
    refine (up2_x ?_).trans (h.2 c' f' hc' hf')
    rintro ⟨h1, h2⟩
    apply hx
    omega
/-- filled, drawn, turned -/
def kfill (K : KT) (c a b : Nat) : KT := kset (kset K c 4 (K.2 c 4 + a)) c 5 (K.2 c 5 + b)
def kgoes (K : KT) (c a : Nat) : Nat := K.2 c 5 * a / K.2 c 4
def kdraw (K : KT) (c a : Nat) : KT := kset (kset K c 4 (K.2 c 4 - a)) c 5 (K.2 c 5 - kgoes K c a)
def kturn (K : KT) (c : Nat) : KT := kset K c 3 (1 - K.2 c 3)
theorem okK.set {K : KT} (h : okK K) {c f v : Nat} (hv : c < K.1 → okc ((kset K c f v).2 c)) : okK (kset K c f v) := by
  refine ⟨h.1, fun c' hc' => ?_⟩
  have hc'' : c' < K.1 := hc'
  by_cases hx : c' = c
  · subst hx; exact hv hc''
  · have : (kset K c f v).2 c' = K.2 c' := by funext f'; exact kset_x (fun z => hx z.1)
    rw [this]
    exact h.2 c' hc''
theorem kset2 (K : KT) (c v w : Nat) : (kset (kset K c 4 v) c 5 w).2 c = fun f => if f = 5 then w else if f = 4 then v else K.2 c f := by
  funext f
  by_cases h5 : f = 5
  · subst h5; simp [kset]
  · by_cases h4 : f = 4
    · subst h4; simp [kset]
    · simp [kset, h5, h4]
theorem okK.set2 {K : KT} (h : okK K) {c v w : Nat} (hc : c < K.1) (h1 : w ≤ v) (h2 : v ≤ cH K c) : okK (kset (kset K c 4 v) c 5 w) := by
  refine ⟨h.1, fun c' hc' => ?_⟩
  have hc'' : c' < K.1 := hc'
  by_cases hx : c' = c
  · subst hx
    rw [kset2]
    have hq := h.2 c' hc
    rw [show cH K c' = cg_hold (K.2 c' 0) (K.2 c' 1) (K.2 c' 2) 1 from cg_hold_one _ _ _ hq.2.2.2.2.2.1] at h2
    obtain ⟨q0, q1, q2, q3, q4, q5, q6, q7⟩ := hq
    exact ⟨by simpa using q0, by simpa using q1, by simpa using q2, by simpa using q3, by simpa using q4, by simpa using q5, by simpa using h1, by simpa using h2⟩
  · have : (kset (kset K c 4 v) c 5 w).2 c' = K.2 c' := by funext f'; rw [kset_x (fun z => hx z.1), kset_x (fun z => hx z.1)]
    rw [this]
    exact h.2 c' hc''
theorem okK.fill {K : KT} (h : okK K) {c a b : Nat} (hc : c < K.1) (ha : a ≤ cH K c - K.2 c 4) (hb : b ≤ a) : okK (kfill K c a b) := by
  have hq := h.2 c hc
  have hw := hq.w
  have h6 := hq.2.2.2.2.2.2.1
  exact h.set2 hc (by omega) (by omega)
theorem kgoes_le {K : KT} {c a : Nat} (hq : okc (K.2 c)) : kgoes K c a ≤ a := by
  have h6 := hq.2.2.2.2.2.2.1
  unfold kgoes
  refine Nat.div_le_of_le_mul ?_
  exact Nat.mul_le_mul_right _ h6
theorem kgoes_le5 {K : KT} {c a : Nat} (ha : a ≤ K.2 c 4) : kgoes K c a ≤ K.2 c 5 := by
  unfold kgoes
  refine Nat.div_le_of_le_mul ?_
  rw [Nat.mul_comm (K.2 c 4)]
  exact Nat.mul_le_mul_left _ ha
theorem kgoes_ge {K : KT} {c a : Nat} (hq : okc (K.2 c)) (ha : a ≤ K.2 c 4) (h1 : 1 ≤ a) : K.2 c 5 - kgoes K c a ≤ K.2 c 4 - a := by
  have h6 := hq.2.2.2.2.2.2.1
  rcases Nat.lt_or_ge (K.2 c 5 + a) (K.2 c 4) with h | h
  · omega
  · have key : K.2 c 5 + a - K.2 c 4 ≤ kgoes K c a := by
      unfold kgoes
      rw [Nat.le_div_iff_mul_le (by omega)]
      obtain ⟨x, hx⟩ : ∃ x, K.2 c 4 = K.2 c 5 + x := ⟨K.2 c 4 - K.2 c 5, by omega⟩
      obtain ⟨y, hy⟩ : ∃ y, a = x + y := ⟨a - x, by omega⟩
      rw [hx, hy, show K.2 c 5 + (x + y) - (K.2 c 5 + x) = y by omega]
      have hy5 : y ≤ K.2 c 5 := by omega
      calc y * (K.2 c 5 + x) = y * K.2 c 5 + y * x := Nat.mul_add _ _ _
        _ ≤ y * K.2 c 5 + K.2 c 5 * x := Nat.add_le_add_left (Nat.mul_le_mul_right _ hy5) _
        _ = K.2 c 5 * (x + y) := by rw [Nat.mul_add, Nat.mul_comm y, Nat.add_comm]
    omega
theorem okK.draw {K : KT} (h : okK K) {c a : Nat} (hc : c < K.1) (h1 : 1 ≤ a) (ha : a ≤ K.2 c 4) : okK (kdraw K c a) := by
  have hq := h.2 c hc
  have hw := hq.w
  have := kgoes_ge hq ha h1
  exact h.set2 hc this (by omega)
theorem okK.turn {K : KT} (h : okK K) {c : Nat} : okK (kturn K c) := by
  refine h.set (fun hc => ?_)
  obtain ⟨q0, q1, q2, q3, q4, q5, q6, q7⟩ := h.2 c hc
  have e : ∀ f, f ≠ 3 → (kset K c 3 (1 - K.2 c 3)).2 c f = K.2 c f := fun f hf => kset_x (fun z => hf z.2)
  refine ⟨?_, ?_, ?_, ?_, ?_, ?_, ?_, ?_⟩
  · rw [e 0 (by decide)]; exact q0
  · rw [e 0 (by decide)]; exact q1
  · rw [e 1 (by decide)]; exact q2
  · rw [e 1 (by decide), e 2 (by decide)]; exact q3
  · rw [e 2 (by decide)]; exact q4
  · rw [kset_s]; omega
  · rw [e 5 (by decide), e 4 (by decide)]; exact q6
  · rw [e 4 (by decide), e 0 (by decide), e 1 (by decide), e 2 (by decide)]; exact q7
/-- what can be undone -/
abbrev PT : Type := Nat × (Nat → KT)
def ppush (P : PT) (K : KT) : PT := if P.1 = 8 then (8, fun k => if k = 7 then K else P.2 (k + 1)) else (P.1 + 1, fun k => if k = P.1 then K else P.2 k)
def st_do (S : ST) (K : KT) : ST := (K, S.2.1, ppush S.2.2.1 S.1, S.2.2.2)
theorem ppush_le {P : PT} {K : KT} (h : P.1 ≤ 8) : (ppush P K).1 ≤ 8 := by unfold ppush; split <;> simp only <;> omega
theorem ppush_ok {P : PT} {K : KT} (h : ∀ k, k < P.1 → okK (P.2 k)) (hK : okK K) (hn : P.1 ≤ 8) : ∀ k, k < (ppush P K).1 → okK ((ppush P K).2 k) := by
  unfold ppush
  split
  · intro k hk
    simp only at hk ⊢
    split
    · exact hK
    · exact h _ (by omega)
  · intro k hk
    simp only at hk ⊢
    split
    · exact hK
    · exact h _ (by omega)
theorem okS.do {S : ST} (h : okS S) {K : KT} (hK : okK K) : okS (st_do S K) := ⟨hK, h.2.1, ⟨ppush_le h.2.2.1.1, ppush_ok h.2.2.1.2 h.1 h.2.2.1.1⟩, h.2.2.2⟩
def MP (I : sm_I) (P : PT) : Prop := I 106 4 = nI P.1 ∧ ∀ k, k < P.1 → MK I 109 (25 * k) (P.2 k)
/-! ===== what the calls that do answer, and leave ===== -/
def sp_fills (S : ST) (c n m : Int32) : Int32 × ST := match cg_ix S.1.1 c with
  | none => (-1, S)
  | some j => match cg_in 1 2147483647 n with
    | none => (-1, S)
    | some a => match cg_in 0 a m with
      | none => (-1, S)
      | some b => if cH S.1 j - S.1.2 j 4 < a then (-3, S) else (nI (S.1.2 j 4 + a), st_do S (kfill S.1 j a b))
def sp_draws (S : ST) (c n : Int32) : Int32 × ST := match cg_ix S.1.1 c with
  | none => (-1, S)
  | some j => match cg_in 1 2147483647 n with
    | none => (-1, S)
    | some a => if S.1.2 j 4 < a then (-2, S) else (nI (S.1.2 j 4 - a), st_do S (kdraw S.1 j a))
def kpour (K : KT) (c e a : Nat) : KT := kset (kset (kdraw K c a) e 4 (K.2 e 4 + a)) e 5 (K.2 e 5 + kgoes K c a)
def sp_pours (S : ST) (c e n : Int32) : Int32 × ST := match cg_ix S.1.1 c with
  | none => (-1, S)
  | some j => match cg_ix S.1.1 e with
    | none => (-1, S)
    | some i => if j = i then (-1, S) else match cg_in 1 2147483647 n with
      | none => (-1, S)
      | some a => if S.1.2 j 4 < a then (-2, S) else if cH S.1 i - S.1.2 i 4 < a then (-3, S) else (nI (S.1.2 i 4 + a), st_do S (kpour S.1 j i a))
def sp_turnsOver (S : ST) (c : Int32) : Int32 × ST := match cg_ix S.1.1 c with
  | none => (-1, S)
  | some j => (nI (1 - S.1.2 j 3), st_do S (kturn S.1 j))
def sp_undo (S : ST) : Int32 × ST := if S.2.2.1.1 = 0 then (-2, S) else (nI (S.2.2.1.1 - 1), (S.2.2.1.2 (S.2.2.1.1 - 1), S.2.1, (S.2.2.1.1 - 1, S.2.2.1.2), S.2.2.2))
theorem okK.pour {K : KT} (h : okK K) {c e a : Nat} (hc : c < K.1) (he : e < K.1) (hne : ¬ c = e) (h1 : 1 ≤ a) (ha : a ≤ K.2 c 4) (hb : a ≤ cH K e - K.2 e 4) : okK (kpour K c e a) := by
  have hd := h.draw hc h1 ha
  have hk : ∀ f, (kdraw K c a).2 e f = K.2 e f := fun f => by unfold kdraw; rw [kset_x (by omega), kset_x (by omega)]
  have hq := h.2 e he
  have hw := hq.w
  have h6 := hq.2.2.2.2.2.2.1
  have hg := kgoes_le (a := a) (h.2 c hc)
  refine hd.set2 he (by omega) ?_
  rw [show cH (kdraw K c a) e = cH K e by unfold cH; rw [hk, hk, hk, hk]]
  omega
end
section
theorem MK.mv {I I' : sm_I} {a off a' off' : Nat} {K : KT} (h : MK I a off K) (hn : K.1 ≤ 4) (hm : ∀ q, q < 25 → I' a' (off' + q) = I a (off + q)) : MK I' a' off' K := ⟨(hm 24 (by omega)).trans h.1, fun c f hc hf => (hm (6 * c + f) (by omega)).trans (h.2 c f hc hf)⟩
def frN (I I' : sm_I) : Prop := ∀ a k, ¬ (a = 106 ∧ k = 4) → a ≠ 109 → I' a k = I a k

theorem lp_notes2 {ζ : sm_Z} {d : Nat} {I0 : sm_I} {Q : Option Value → sm_I → Prop} {u : Nat} (hu7 : u ≤ 7) (hq : ∀ I' : sm_I, I' 106 4 = nI (u + 1) → (∀ q, q < 25 → I' 109 (25 * u + q) = I0 107 q) → (∀ q, ¬ (25 * u ≤ q ∧ q < 25 * u + 25) → I' 109 q = I0 109 q) → frN I0 I' → Q none I') : ∀ (f k : Nat) (I : sm_I), k + f = 25 → I 106 4 = nI u → (∀ q, q < k → I 109 (25 * u + q) = I0 107 q) → (∀ q, ¬ (25 * u ≤ q ∧ q < 25 * u + k) → I 109 q = I0 109 q) → (∀ a k, a ≠ 109 → I a k = I0 a k) → X0 ζ d mX9_notes 51 [some (.ref 106), some (.int (nI k))] [] I Q := by
  intro f
  induction f with
  | zero =>
    intro k I hk hu h1 h2 h3
    have hkk : k = 25 := by omega
    subst hkk
    refine o_iload_n dX9_notes_51 rfl rfl ?_
    refine o_bipush (v := nI 25) dX9_notes_52 (by decide) ?_
    refine o_icmpN_ge (tgt := 83) dX9_notes_54 (by decide) (by omega) (by omega) (fun b_1 => ?_) (fun b_1 => absurd b_1 (by omega))
    refine o_aload_n dX9_notes_83 rfl rfl ?_
    refine o_dup dX9_notes_84 rfl ?_
    refine o_getI (v := nI u) dX9_notes_85 fgX9_124 sh_106 rfl hu ?_
    refine o_iconst (v := nI 1) dX9_notes_88 (by decide) ?_
    refine o_iaddN dX9_notes_89 ?_
    refine o_putI dX9_notes_90 flX9_124 sh_106 rfl ?_
    exact o_vret dX9_notes_93 rfl (hq _ up2_s (fun q hq => (up2_x (by omega)).trans (h1 q hq)) (fun q hq => (up2_x (by omega)).trans (h2 q hq)) (fun a k z1 z2 => (up2_x z1).trans (h3 a k z2)))
  | succ f ih =>
    intro k I hk hu h1 h2 h3
    refine o_iload_n dX9_notes_51 rfl rfl ?_
    refine o_bipush (v := nI 25) dX9_notes_52 (by decide) ?_
    refine o_icmpN_ge (tgt := 83) dX9_notes_54 (by decide) (by omega) (by omega) (fun b_2 => absurd b_2 (by omega)) (fun b_2 => ?_)
    refine o_aload_n dX9_notes_57 rfl rfl ?_
    refine o_getR (b := 109) dX9_notes_58 fgX9_16 sh_106 rfl rfl ?_
    refine o_bipush (v := nI 25) dX9_notes_61 (by decide) ?_
    refine o_aload_n dX9_notes_63 rfl rfl ?_
    refine o_getI (v := nI u) dX9_notes_64 fgX9_124 sh_106 rfl hu ?_
    refine o_imulN dX9_notes_67 ?_
    refine o_iload_n dX9_notes_68 rfl rfl ?_
    refine o_iaddN dX9_notes_69 ?_
    refine o_aload_n dX9_notes_70 rfl rfl ?_
    refine o_getR (b := 107) dX9_notes_71 fgX9_7 sh_106 rfl rfl ?_
    refine o_iload_n dX9_notes_74 rfl rfl ?_
    refine o_ialdN (v := I 107 k) dX9_notes_75 sh_107 (by decide) (by omega) rfl ?_
    refine o_iastN dX9_notes_76 sh_109 (by decide) (by omega) ?_
    refine o_iincN (w := 1) dX9_notes_77 rfl (by decide) (by decide) ?_
    refine o_goto (tgt := 51) dX9_notes_80 (by decide) ?_
    refine ih (k + 1) _ (by omega) ((up2_x (by omega)).trans hu) (fun q hq => ?_) (fun q hq => ?_) (fun a k z => (up2_x (by omega)).trans (h3 a k z))
    · rcases Nat.lt_or_ge q k with z | z
      · exact (up2_x (by omega)).trans (h1 q z)
      · have hqq : q = k := by omega
        subst hqq
        exact up2_s.trans (h3 107 q (by decide))
    · exact (up2_x (by omega)).trans (h2 q (by omega))

theorem lp_notes1 {ζ : sm_Z} {d : Nat} {I0 : sm_I} {Q : Option Value → sm_I → Prop} (hx : ∀ I' : sm_I, (∀ q, q < 175 → I' 109 q = I0 109 (q + 25)) → (∀ a k, a ≠ 109 → I' a k = I0 a k) → X0 ζ d mX9_notes 39 [some (.ref 106), some (.int (nI 175))] [] I' Q) : ∀ (f k : Nat) (I : sm_I), k + f = 175 → (∀ q, q < k → I 109 q = I0 109 (q + 25)) → (∀ q, k ≤ q → I 109 q = I0 109 q) → (∀ a k, a ≠ 109 → I a k = I0 a k) → X0 ζ d mX9_notes 11 [some (.ref 106), some (.int (nI k))] [] I Q := by
  intro f
  induction f with
  | zero =>
    intro k I hk h1 h2 h3
    have hkk : k = 175 := by omega
    subst hkk
    refine o_iload_n dX9_notes_11 rfl rfl ?_
    refine o_sipush (v := nI 175) dX9_notes_12 (by decide) ?_
    refine o_icmpN_ge (tgt := 39) dX9_notes_15 (by decide) (by omega) (by omega) (fun b_3 => ?_) (fun b_3 => absurd b_3 (by omega))
    exact hx I h1 h3
  | succ f ih =>
    intro k I hk h1 h2 h3
    refine o_iload_n dX9_notes_11 rfl rfl ?_
    refine o_sipush (v := nI 175) dX9_notes_12 (by decide) ?_
    refine o_icmpN_ge (tgt := 39) dX9_notes_15 (by decide) (by omega) (by omega) (fun b_4 => absurd b_4 (by omega)) (fun b_4 => ?_)
    refine o_aload_n dX9_notes_18 rfl rfl ?_
    refine o_getR (b := 109) dX9_notes_19 fgX9_16 sh_106 rfl rfl ?_
    refine o_iload_n dX9_notes_22 rfl rfl ?_
    refine o_aload_n dX9_notes_23 rfl rfl ?_
    refine o_getR (b := 109) dX9_notes_24 fgX9_16 sh_106 rfl rfl ?_
    refine o_iload_n dX9_notes_27 rfl rfl ?_
    refine o_bipush (v := nI 25) dX9_notes_28 (by decide) ?_
    refine o_iaddN dX9_notes_30 ?_
    refine o_ialdN (v := I 109 (k + 25)) dX9_notes_31 sh_109 (by decide) (by omega) rfl ?_
    refine o_iastN dX9_notes_32 sh_109 (by decide) (by omega) ?_
    refine o_iincN (w := 1) dX9_notes_33 rfl (by decide) (by decide) ?_
    refine o_goto (tgt := 11) dX9_notes_36 (by decide) ?_
    refine ih (k + 1) _ (by omega) (fun q hq => ?_) (fun q hq => (up2_x (by omega)).trans (h2 q (by omega))) (fun a k z => (up2_x (by omega)).trans (h3 a k z))
    rcases Nat.lt_or_ge q k with z | z
    · exact (up2_x (by omega)).trans (h1 q z)
    · have hqq : q = k := by omega
      subst hqq
      exact up2_s.trans (h2 (q + 25) (by omega))

set_option maxHeartbeats 4000000 in
set_option maxRecDepth 100000 in
theorem c_notes {I : sm_I} {K : KT} (hK : MK I 107 0 K) (hn : K.1 ≤ 4) {P : PT} (hP : MP I P) (hp8 : P.1 ≤ 8) (hPn : ∀ k, k < P.1 → (P.2 k).1 ≤ 4) : E0 0 mX9_notes [.ref 106] I (fun r I' => r = none ∧ MP I' (ppush P K) ∧ frN I I') := by
  refine E0.of (by decide) (by simp [Value.category]) (Nat.le_of_ble_eq_true rfl) (fun ζ => ?_)
  by_cases h8 : P.1 = 8
  · refine o_aload_n dX9_notes_0 rfl rfl ?_
    refine o_getI (v := nI 8) dX9_notes_1 fgX9_124 sh_106 rfl (hP.1.trans (by rw [h8])) ?_
    refine o_bipush (v := nI 8) dX9_notes_4 (by decide) ?_
    refine o_icmpN_ne (tgt := 49) dX9_notes_6 (by decide) (by omega) (by omega) (fun b_5 => absurd b_5 (by omega)) (fun b_5 => ?_)
    refine o_iconst (v := nI 0) dX9_notes_9 (by decide) ?_
    refine o_istore_n dX9_notes_10 rfl (by decide) ?_
    refine lp_notes1 (I0 := I) (fun I1 r1 r2 => ?_) 175 0 I (by omega) (fun q hq => by omega) (fun q _ => rfl) (fun _ _ _ => rfl)
    refine o_aload_n dX9_notes_39 rfl rfl ?_
    refine o_dup dX9_notes_40 rfl ?_
    refine o_getI (v := nI 8) dX9_notes_41 fgX9_124 sh_106 rfl ((r2 106 4 (by decide)).trans (hP.1.trans (by rw [h8]))) ?_
    refine o_iconst (v := nI 1) dX9_notes_44 (by decide) ?_
    refine o_isubN dX9_notes_45 (by omega) ?_
    refine o_putI dX9_notes_46 flX9_124 sh_106 rfl ?_
    refine o_iconst (v := nI 0) dX9_notes_49 (by decide) ?_
    refine o_istore_n dX9_notes_50 rfl (by decide) ?_
    refine lp_notes2 (I0 := up2 I1 106 4 (nI (8 - 1))) (u := 7) (by omega) ?_ 25 0 _ (by omega) up2_s (fun q hq => by omega) (fun q _ => rfl) (fun _ _ _ => rfl)
    intro I2 g1 g2 g3 g4
    have e : ppush P K = (8, fun k => if k = 7 then K else P.2 (k + 1)) := by unfold ppush; rw [if_pos h8]
    refine ⟨rfl, ?_, fun a k z1 z2 => (g4 a k z1 z2).trans ((up2_x z1).trans (r2 a k z2))⟩
    rw [e]
    refine ⟨g1, fun k hk => ?_⟩
    have hk8 : k < 8 := hk
    show MK I2 109 (25 * k) (if k = 7 then K else P.2 (k + 1))
    by_cases h7 : k = 7
    · subst h7
      rw [if_pos rfl]
      exact hK.mv hn (fun q hq => by rw [g2 q hq, up2_x (by omega), r2 107 q (by decide), Nat.zero_add])
    · rw [if_neg h7]
      exact (hP.2 (k + 1) (by omega)).mv (hPn _ (by omega)) (fun q hq => by rw [g3 _ (by omega), up2_x (by omega), r1 _ (by omega), show 25 * k + q + 25 = 25 * (k + 1) + q by omega])
  · refine o_aload_n dX9_notes_0 rfl rfl ?_
    refine o_getI (v := nI P.1) dX9_notes_1 fgX9_124 sh_106 rfl hP.1 ?_
    refine o_bipush (v := nI 8) dX9_notes_4 (by decide) ?_
    refine o_icmpN_ne (tgt := 49) dX9_notes_6 (by decide) (by omega) (by omega) (fun b_6 => ?_) (fun b_6 => absurd b_6 (by omega))
    refine o_iconst (v := nI 0) dX9_notes_49 (by decide) ?_
    refine o_istore_n dX9_notes_50 rfl (by decide) ?_
    refine lp_notes2 (I0 := I) (u := P.1) (by omega) ?_ 25 0 _ (by omega) hP.1 (fun q hq => by omega) (fun q _ => rfl) (fun _ _ _ => rfl)
    intro I2 g1 g2 g3 g4
    have e : ppush P K = (P.1 + 1, fun k => if k = P.1 then K else P.2 k) := by unfold ppush; rw [if_neg (by omega)]
    refine ⟨rfl, ?_, g4⟩
    rw [e]
    refine ⟨g1, fun k hk => ?_⟩
    have hk8 : k < P.1 + 1 := hk
    show MK I2 109 (25 * k) (if k = P.1 then K else P.2 k)
    by_cases h7 : k = P.1
    · subst h7
      rw [if_pos rfl]
      exact hK.mv hn (fun q hq => by rw [g2 q hq, Nat.zero_add])
    · rw [if_neg h7]
      exact (hP.2 k (by omega)).mv (hPn _ (by omega)) (fun q hq => g3 _ (by omega))

/-- behind notes(), and what is told then -/
theorem MI.note {I I' : sm_I} {S : ST} (h : MI I S) (hP : MP I' (ppush S.2.2.1 S.1)) (hf : frN I I') : MI I' (st_do S S.1) := by
  obtain ⟨h1, ⟨h2, h3⟩, ⟨h4, h5⟩, h6, h7, h8⟩ := h
  have e : ∀ a k, ¬ (a = 106 ∧ k = 4) → a ≠ 109 → I' a k = I a k := hf
  exact ⟨h1.of (fun k => e 107 k (by omega) (by omega)), ⟨(e _ _ (by omega) (by omega)).trans h2, fun j hj => (e _ _ (by omega) (by omega)).trans (h3 j hj)⟩, hP, fun i hi => ⟨fun q => (e _ _ (by omega) (by omega)).trans ((h6 i hi).1 q), fun K q => ⟨(e _ _ (by omega) (by omega)).trans ((h6 i hi).2 K q).1, ((h6 i hi).2 K q).2.of (fun k => e 110 k (by omega) (by omega))⟩⟩, (e _ _ (by omega) (by omega)).trans h7, fun j hj => ⟨(e _ _ (by omega) (by omega)).trans (h8 j hj).1, (e _ _ (by omega) (by omega)).trans (h8 j hj).2⟩⟩
/-- another row of casks -/
theorem MI.casks {I I' : sm_I} {S : ST} {K : KT} (h : MI I S) (hK : MK I' 107 0 K) (hf : ∀ a k, a ≠ 107 → I' a k = I a k) : MI I' (K, S.2) := by
  obtain ⟨h1, ⟨h2, h3⟩, ⟨h4, h5⟩, h6, h7, h8⟩ := h
  exact ⟨hK, ⟨(hf _ _ (by omega)).trans h2, fun j hj => (hf _ _ (by omega)).trans (h3 j hj)⟩, ⟨(hf _ _ (by omega)).trans h4, fun k hk => (h5 k hk).of (fun k => hf 109 k (by omega))⟩, fun i hi => ⟨fun q => (hf _ _ (by omega)).trans ((h6 i hi).1 q), fun K q => ⟨(hf _ _ (by omega)).trans ((h6 i hi).2 K q).1, ((h6 i hi).2 K q).2.of (fun k => hf 110 k (by omega))⟩⟩, (hf _ _ (by omega)).trans h7, fun j hj => ⟨(hf _ _ (by omega)).trans (h8 j hj).1, (hf _ _ (by omega)).trans (h8 j hj).2⟩⟩
theorem MI.MP {I : sm_I} {S : ST} (h : MI I S) : MP I S.2.2.1 := h.2.2.1
def loC (I I' : sm_I) : Prop := ∀ a k, a < 106 → I' a k = I a k
theorem frM.lo {I I' : sm_I} (h : frM I I') : loC I I' := fun a k q => h a k (Or.inr q)
theorem frN.lo {I I' : sm_I} (h : frN I I') : loC I I' := fun a k q => h a k (by omega) (by omega)
theorem loC.trans {I J K : sm_I} (h1 : loC I J) (h2 : loC J K) : loC I K := fun a k h => (h2 a k h).trans (h1 a k h)
theorem loC.up {I : sm_I} {a k : Nat} {v : Int32} (h : 106 ≤ a) : loC I (up2 I a k v) := fun b j q => up2_x (by omega)
theorem ge1_nat {n : Int32} (h : ¬ n < nI 1) : ∃ a : Nat, 1 ≤ a ∧ a ≤ 2147483647 ∧ n = nI a := by
  have h0 : ¬ n < 0 := fun q => h (Int32.lt_trans q (by decide))
  obtain ⟨a, ha, rfl⟩ := nI_of h0
  rw [nI_ltI ha (by decide)] at h
  exact ⟨a, by omega, by omega, rfl⟩
theorem ge1_nat' {n : Int32} (h : nI 1 ≤ n) : ∃ a : Nat, 1 ≤ a ∧ a ≤ 2147483647 ∧ n = nI a := ge1_nat (Int32.not_lt.mpr h)
theorem lt1_in {n : Int32} (h : n < nI 1) : cg_in 1 2147483647 n = none := cg_in_none (by decide) (by decide) (fun q => absurd q.1 (Int32.not_le.mpr h))
theorem cg_in_n {a : Nat} (h1 : 1 ≤ a) (h2 : a ≤ 2147483647) : cg_in 1 2147483647 (nI a) = some a := cg_in_some h1 h2 (by decide)
end
section
set_option maxHeartbeats 4000000 in
set_option maxRecDepth 100000 in
theorem c_goes {I : sm_I} {K : KT} (hK : MK I 107 0 K) (hok : okK K) {c a : Nat} (hc : c < K.1) (ha1 : 1 ≤ a) (ha2 : a ≤ K.2 c 4) : E0 1 mX9_goes [.ref 106, .int (nI c), .int (nI a)] I (fun r I' => r = some (.int (nI (kgoes K c a))) ∧ I' = up2 (up2 I 107 (6 * c + 4) (nI (K.2 c 4 - a))) 107 (6 * c + 5) (nI (K.2 c 5 - kgoes K c a))) := by
  have hn := hok.1
  have hq := hok.2 c hc
  have hw := hq.w
  have hH := hq.l2
  have q6 := hq.2.2.2.2.2.2.1
  have hmul : K.2 c 5 * a ≤ 20160 * 20160 := Nat.mul_le_mul (by omega) (by omega)
  refine E0.of (by decide) (by simp [Value.category]) (Nat.le_of_ble_eq_true rfl) (fun ζ => ?_)
  refine o_aload_n dX9_goes_0 rfl rfl ?_
  refine o_iload_n dX9_goes_1 rfl rfl ?_
  refine o_iconst (v := nI 5) dX9_goes_2 (by decide) ?_
  refine o_callV (as := [.int (nI c), .int (nI 5)]) (st := []) dX9_goes_3 (c_ofK (hK.frM (frM.refl _)) hn hc (by decide)) rfl meX9_of imX9_of seX9_of mlX9_103 sh_106 rfl rfl (by omega) (by decide) (Nat.le_of_ble_eq_true rfl) ?_
  rintro _ _ ⟨rfl, rfl⟩
  refine o_iload_n dX9_goes_6 rfl rfl ?_
  refine o_imulN dX9_goes_7 ?_
  refine o_aload_n dX9_goes_8 rfl rfl ?_
  refine o_iload_n dX9_goes_9 rfl rfl ?_
  refine o_iconst (v := nI 4) dX9_goes_10 (by decide) ?_
  refine o_callV (as := [.int (nI c), .int (nI 4)]) (st := [.int (nI ((K.2 c 5) * a))]) dX9_goes_11 (c_ofK (hK.frM (frM.refl _)) hn hc (by decide)) rfl meX9_of imX9_of seX9_of mlX9_103 sh_106 rfl rfl (by omega) (by decide) (Nat.le_of_ble_eq_true rfl) ?_
  rintro _ _ ⟨rfl, rfl⟩
  refine o_idivN dX9_goes_14 (by omega) (by omega) (by omega) ?_
  refine o_istore_n dX9_goes_15 rfl (by decide) ?_
  refine o_aload_n dX9_goes_16 rfl rfl ?_
  refine o_getR (b := 107) dX9_goes_17 fgX9_7 sh_106 rfl rfl ?_
  refine o_bipush (v := nI 6) dX9_goes_20 (by decide) ?_
  refine o_iload_n dX9_goes_22 rfl rfl ?_
  refine o_imulN dX9_goes_23 ?_
  refine o_iconst (v := nI 4) dX9_goes_24 (by decide) ?_
  refine o_iaddN dX9_goes_25 ?_
  refine o_dup2 dX9_goes_26 rfl rfl ?_
  refine o_ialdN (v := nI (K.2 c 4)) dX9_goes_27 sh_107 (by decide) (by omega) (hK.at0 hc (by decide)) ?_
  refine o_iload_n dX9_goes_28 rfl rfl ?_
  refine o_isubN dX9_goes_29 (by omega) ?_
  refine o_iastN dX9_goes_30 sh_107 (by decide) (by omega) ?_
  refine o_aload_n dX9_goes_31 rfl rfl ?_
  refine o_getR (b := 107) dX9_goes_32 fgX9_7 sh_106 rfl rfl ?_
  refine o_bipush (v := nI 6) dX9_goes_35 (by decide) ?_
  refine o_iload_n dX9_goes_37 rfl rfl ?_
  refine o_imulN dX9_goes_38 ?_
  refine o_iconst (v := nI 5) dX9_goes_39 (by decide) ?_
  refine o_iaddN dX9_goes_40 ?_
  refine o_dup2 dX9_goes_41 rfl rfl ?_
  refine o_ialdN (v := nI (K.2 c 5)) dX9_goes_42 sh_107 (by decide) (by omega) ((up2_x (by omega)).trans (hK.at0 hc (by decide))) ?_
  refine o_iload_n dX9_goes_43 rfl rfl ?_
  refine o_isubN dX9_goes_44 (kgoes_le5 ha2) ?_
  refine o_iastN dX9_goes_45 sh_107 (by decide) (by omega) ?_
  refine o_iload_n dX9_goes_46 rfl rfl ?_
  exact o_iret dX9_goes_47 rfl ⟨rfl, rfl⟩

set_option maxHeartbeats 4000000 in
set_option maxRecDepth 100000 in
theorem m_fills {I : sm_I} {S : ST} (hM : MI I S) (hS : okS S) (c n m : Int32) : E0 6 mX9_fills [.ref 106, .int c, .int n, .int m] I (fun r I' => r = some (.int (sp_fills S c n m).1) ∧ MI I' (sp_fills S c n m).2 ∧ loC I I') := by
  have hK := hM.1
  have hok := hS.1
  have hn := hok.1
  refine E0.of (by decide) (by simp [Value.category]) (Nat.le_of_ble_eq_true rfl) (fun ζ => ?_)
  refine o_aload_n dX9_fills_0 rfl rfl ?_
  refine o_iconst (v := nI 0) dX9_fills_1 (by decide) ?_
  refine o_putI dX9_fills_2 flX9_39 sh_106 rfl ?_
  refine o_aload_n dX9_fills_5 rfl rfl ?_
  refine o_iload_n dX9_fills_6 rfl rfl ?_
  refine o_callV (as := [.int c]) (st := []) dX9_fills_7 (c_isCask (hK.frM ((frM.refl _).trans (frM.scr (by unfold mn; omega)))) hok c) rfl meX9_isCask imX9_isCask seX9_isCask mlX9_127 sh_106 rfl rfl (by omega) (by decide) (Nat.le_of_ble_eq_true rfl) ?_
  rintro _ _ ⟨rfl, ⟨j, hj, rfl, rfl⟩ | ⟨hno, rfl⟩⟩
  · refine o_ifN_eq (tgt := 27) dX9_fills_10 (by decide) (by omega) (fun b_1 => absurd b_1 (by omega)) (fun b_1 => ?_)
    refine o_iload_n dX9_fills_13 rfl rfl ?_
    refine o_iconst (v := nI 1) dX9_fills_14 (by decide) ?_
    refine o_icmp_lt (tgt := 27) dX9_fills_15 (by decide) (fun b_2 => ?_) (fun b_2 => ?_)
    · refine o_iconst (v := (-1)) dX9_fills_27 (by decide) ?_
      exact o_iret dX9_fills_28 rfl (by rw [show sp_fills S (nI j) n m = (-1, S) by simp only [sp_fills, cg_ix_some hj (by omega : S.1.1 ≤ 2 ^ 31), lt1_in b_2]]; exact ⟨rfl, hM.fr ((frM.refl _).trans (frM.scr (by unfold mn; omega))), ((frM.refl _).trans (frM.scr (by unfold mn; omega))).lo⟩)
    · obtain ⟨a, ha1, ha2, rfl⟩ := ge1_nat b_2
      refine o_iload_n dX9_fills_18 rfl rfl ?_
      refine o_iconst (v := nI 0) dX9_fills_19 (by decide) ?_
      refine o_iload_n dX9_fills_20 rfl rfl ?_
      refine o_callS (as := [.int m, .int (nI 0), .int (nI a)]) (st := []) dX9_fills_21 (c_in _ _ _ _) rfl meX9_in ssX9_in mlX9_43 (by omega) (by decide) (Nat.le_of_ble_eq_true rfl) ?_
      rintro _ _ ⟨rfl, ⟨hba, hbb, rfl⟩ | ⟨hno2, rfl⟩⟩
      · obtain ⟨b, hb1, hb2, rfl⟩ := in_nat (by omega) (by omega) hba hbb
        refine o_ifN_ne (tgt := 29) dX9_fills_24 (by decide) (by omega) (fun b_3 => ?_) (fun b_3 => absurd b_3 (by omega))
        refine o_iload_n dX9_fills_29 rfl rfl ?_
        refine o_aload_n dX9_fills_30 rfl rfl ?_
        refine o_iload_n dX9_fills_31 rfl rfl ?_
        refine o_callV (as := [.int (nI j)]) (st := [.int (nI a)]) dX9_fills_32 (c_hold (hK.frM ((frM.refl _).trans (frM.scr (by unfold mn; omega)))) hok hj) rfl meX9_hold imX9_hold seX9_hold mlX9_131 sh_106 rfl rfl (by omega) (by decide) (Nat.le_of_ble_eq_true rfl) ?_
        rintro _ I1 ⟨rfl, hUI1, hFI1⟩
        have hq := hok.2 j hj
        have hT := hq.lT
        have hH := hq.l2
        have hw := hq.w
        have hUl : ∀ y, y ≤ 40 → cU S.1 j y ≤ 67200 := fun y hy => hq.lU hy
        have q6 := hq.2.2.2.2.2.2.1
        have q5 := hq.2.2.2.2.2.1
        refine o_aload_n dX9_fills_35 rfl rfl ?_
        refine o_iload_n dX9_fills_36 rfl rfl ?_
        refine o_iconst (v := nI 4) dX9_fills_37 (by decide) ?_
        refine o_callV (as := [.int (nI j), .int (nI 4)]) (st := [.int (nI (cH S.1 j)), .int (nI a)]) dX9_fills_38 (c_ofK (hK.frM (((frM.refl _).trans (frM.scr (by unfold mn; omega))).trans hFI1.M)) hn hj (by decide)) rfl meX9_of imX9_of seX9_of mlX9_103 sh_106 rfl rfl (by omega) (by decide) (Nat.le_of_ble_eq_true rfl) ?_
        rintro _ _ ⟨rfl, rfl⟩
        refine o_isubN dX9_fills_41 (by omega) ?_
        refine o_icmpN_le (tgt := 48) dX9_fills_42 (by decide) (by omega) (by omega) (fun b_4 => ?_) (fun b_4 => ?_)
        · refine o_aload_n dX9_fills_48 rfl rfl ?_
          refine o_callV (as := []) (st := []) dX9_fills_49 (c_notes (hK.frM (((frM.refl _).trans (frM.scr (by unfold mn; omega))).trans hFI1.M)) hn (hM.fr (((frM.refl _).trans (frM.scr (by unfold mn; omega))).trans hFI1.M)).MP hS.2.2.1.1 (fun k hk => (hS.2.2.1.2 k hk).1)) rfl meX9_notes imX9_notes seX9_notes mlX9_100 sh_106 rfl rfl (by omega) (by decide) (Nat.le_of_ble_eq_true rfl) ?_
          rintro _ I2 ⟨rfl, hPI2, hFI2⟩
          have hI2 := (hM.fr (((frM.refl _).trans (frM.scr (by unfold mn; omega))).trans hFI1.M)).note hPI2 hFI2
          have hKI2 : MK I2 107 0 S.1 := hI2.1
          have loI2 : loC I I2 := ((((frM.refl _).trans (frM.scr (by unfold mn; omega))).trans hFI1.M).lo).trans hFI2.lo
          refine o_aload_n dX9_fills_52 rfl rfl ?_
          refine o_getR (b := 107) dX9_fills_53 fgX9_7 sh_106 rfl rfl ?_
          refine o_bipush (v := nI 6) dX9_fills_56 (by decide) ?_
          refine o_iload_n dX9_fills_58 rfl rfl ?_
          refine o_imulN dX9_fills_59 ?_
          refine o_iconst (v := nI 4) dX9_fills_60 (by decide) ?_
          refine o_iaddN dX9_fills_61 ?_
          refine o_dup2 dX9_fills_62 rfl rfl ?_
          refine o_ialdN (v := nI (S.1.2 j 4)) dX9_fills_63 sh_107 (by decide) (by omega) (hKI2.at0 hj (by decide)) ?_
          refine o_iload_n dX9_fills_64 rfl rfl ?_
          refine o_iaddN dX9_fills_65 ?_
          refine o_iastN dX9_fills_66 sh_107 (by decide) (by omega) ?_
          refine o_aload_n dX9_fills_67 rfl rfl ?_
          refine o_getR (b := 107) dX9_fills_68 fgX9_7 sh_106 rfl rfl ?_
          refine o_bipush (v := nI 6) dX9_fills_71 (by decide) ?_
          refine o_iload_n dX9_fills_73 rfl rfl ?_
          refine o_imulN dX9_fills_74 ?_
          refine o_iconst (v := nI 5) dX9_fills_75 (by decide) ?_
          refine o_iaddN dX9_fills_76 ?_
          refine o_dup2 dX9_fills_77 rfl rfl ?_
          refine o_ialdN (v := nI (S.1.2 j 5)) dX9_fills_78 sh_107 (by decide) (by omega) ((up2_x (by omega)).trans (hKI2.at0 hj (by decide))) ?_
          refine o_iload_n dX9_fills_79 rfl rfl ?_
          refine o_iaddN dX9_fills_80 ?_
          refine o_iastN dX9_fills_81 sh_107 (by decide) (by omega) ?_
          refine o_aload_n dX9_fills_82 rfl rfl ?_
          refine o_iload_n dX9_fills_83 rfl rfl ?_
          refine o_iconst (v := nI 4) dX9_fills_84 (by decide) ?_
          refine o_callV (as := [.int (nI j), .int (nI 4)]) (st := []) dX9_fills_85 (c_ofK ((hKI2.put hn hj (by decide)).put hn hj (by decide)) hn hj (by decide)) rfl meX9_of imX9_of seX9_of mlX9_103 sh_106 rfl rfl (by omega) (by decide) (Nat.le_of_ble_eq_true rfl) ?_
          rintro _ _ ⟨rfl, rfl⟩
          exact o_iret dX9_fills_88 rfl (by rw [show sp_fills S (nI j) (nI a) (nI b) = (nI (S.1.2 j 4 + a), st_do S (kfill S.1 j a b)) by simp only [sp_fills, cg_ix_some hj (by omega : S.1.1 ≤ 2 ^ 31), cg_in_n ha1 ha2, cg_in_some hb1 hb2 (by omega : a < 2 ^ 31), if_neg (show ¬ cH S.1 j - S.1.2 j 4 < a by omega)]]; exact ⟨by rw [kset_x (by omega), kset_s], hI2.casks ((hKI2.put hn hj (by decide)).put hn hj (by decide)) (fun a k z => (up2_x (by omega)).trans (up2_x (by omega))), loI2.trans (fun a k z => (up2_x (by omega)).trans (up2_x (by omega)))⟩)
        · refine o_bipush (v := (-3)) dX9_fills_45 (by decide) ?_
          exact o_iret dX9_fills_47 rfl (by rw [show sp_fills S (nI j) (nI a) (nI b) = (-3, S) by simp only [sp_fills, cg_ix_some hj (by omega : S.1.1 ≤ 2 ^ 31), cg_in_n ha1 ha2, cg_in_some hb1 hb2 (by omega : a < 2 ^ 31), if_pos (show cH S.1 j - S.1.2 j 4 < a by omega)]]; exact ⟨rfl, hM.fr (((frM.refl _).trans (frM.scr (by unfold mn; omega))).trans hFI1.M), (((frM.refl _).trans (frM.scr (by unfold mn; omega))).trans hFI1.M).lo⟩)
      · refine o_ifN_ne (tgt := 29) dX9_fills_24 (by decide) (by omega) (fun b_5 => absurd b_5 (by omega)) (fun b_5 => ?_)
        refine o_iconst (v := (-1)) dX9_fills_27 (by decide) ?_
        exact o_iret dX9_fills_28 rfl (by rw [show sp_fills S (nI j) (nI a) m = (-1, S) by simp only [sp_fills, cg_ix_some hj (by omega : S.1.1 ≤ 2 ^ 31), cg_in_n ha1 ha2, cg_in_none (by omega) (by omega : a < 2 ^ 31) hno2]]; exact ⟨rfl, hM.fr ((frM.refl _).trans (frM.scr (by unfold mn; omega))), ((frM.refl _).trans (frM.scr (by unfold mn; omega))).lo⟩)
  · refine o_ifN_eq (tgt := 27) dX9_fills_10 (by decide) (by omega) (fun b_6 => ?_) (fun b_6 => absurd b_6 (by omega))
    refine o_iconst (v := (-1)) dX9_fills_27 (by decide) ?_
    exact o_iret dX9_fills_28 rfl (by rw [show sp_fills S c n m = (-1, S) by simp only [sp_fills, hno]]; exact ⟨rfl, hM.fr ((frM.refl _).trans (frM.scr (by unfold mn; omega))), ((frM.refl _).trans (frM.scr (by unfold mn; omega))).lo⟩)

set_option maxHeartbeats 4000000 in
set_option maxRecDepth 100000 in
theorem m_draws {I : sm_I} {S : ST} (hM : MI I S) (hS : okS S) (c n : Int32) : E0 6 mX9_draws [.ref 106, .int c, .int n] I (fun r I' => r = some (.int (sp_draws S c n).1) ∧ MI I' (sp_draws S c n).2 ∧ loC I I') := by
  have hK := hM.1
  have hok := hS.1
  have hn := hok.1
  refine E0.of (by decide) (by simp [Value.category]) (Nat.le_of_ble_eq_true rfl) (fun ζ => ?_)
  refine o_aload_n dX9_draws_0 rfl rfl ?_
  refine o_iconst (v := nI 0) dX9_draws_1 (by decide) ?_
  refine o_putI dX9_draws_2 flX9_39 sh_106 rfl ?_
  refine o_aload_n dX9_draws_5 rfl rfl ?_
  refine o_iload_n dX9_draws_6 rfl rfl ?_
  refine o_callV (as := [.int c]) (st := []) dX9_draws_7 (c_isCask (hK.frM ((frM.refl _).trans (frM.scr (by unfold mn; omega)))) hok c) rfl meX9_isCask imX9_isCask seX9_isCask mlX9_127 sh_106 rfl rfl (by omega) (by decide) (Nat.le_of_ble_eq_true rfl) ?_
  rintro _ _ ⟨rfl, ⟨j, hj, rfl, rfl⟩ | ⟨hno, rfl⟩⟩
  · refine o_ifN_eq (tgt := 18) dX9_draws_10 (by decide) (by omega) (fun b_7 => absurd b_7 (by omega)) (fun b_7 => ?_)
    refine o_iload_n dX9_draws_13 rfl rfl ?_
    refine o_iconst (v := nI 1) dX9_draws_14 (by decide) ?_
    refine o_icmp_ge (tgt := 20) dX9_draws_15 (by decide) (fun b_8 => ?_) (fun b_8 => ?_)
    · obtain ⟨a, ha1, ha2, rfl⟩ := ge1_nat' b_8
      have hq := hok.2 j hj
      have hT := hq.lT
      have hH := hq.l2
      have hw := hq.w
      have hUl : ∀ y, y ≤ 40 → cU S.1 j y ≤ 67200 := fun y hy => hq.lU hy
      have q6 := hq.2.2.2.2.2.2.1
      have q5 := hq.2.2.2.2.2.1
      refine o_aload_n dX9_draws_20 rfl rfl ?_
      refine o_iload_n dX9_draws_21 rfl rfl ?_
      refine o_iconst (v := nI 4) dX9_draws_22 (by decide) ?_
      refine o_callV (as := [.int (nI j), .int (nI 4)]) (st := []) dX9_draws_23 (c_ofK (hK.frM ((frM.refl _).trans (frM.scr (by unfold mn; omega)))) hn hj (by decide)) rfl meX9_of imX9_of seX9_of mlX9_103 sh_106 rfl rfl (by omega) (by decide) (Nat.le_of_ble_eq_true rfl) ?_
      rintro _ _ ⟨rfl, rfl⟩
      refine o_iload_n dX9_draws_26 rfl rfl ?_
      refine o_icmpN_ge (tgt := 33) dX9_draws_27 (by decide) (by omega) (by omega) (fun b_9 => ?_) (fun b_9 => ?_)
      · refine o_aload_n dX9_draws_33 rfl rfl ?_
        refine o_callV (as := []) (st := []) dX9_draws_34 (c_notes (hK.frM ((frM.refl _).trans (frM.scr (by unfold mn; omega)))) hn (hM.fr ((frM.refl _).trans (frM.scr (by unfold mn; omega)))).MP hS.2.2.1.1 (fun k hk => (hS.2.2.1.2 k hk).1)) rfl meX9_notes imX9_notes seX9_notes mlX9_100 sh_106 rfl rfl (by omega) (by decide) (Nat.le_of_ble_eq_true rfl) ?_
        rintro _ I2 ⟨rfl, hPI2, hFI2⟩
        have hI2 := (hM.fr ((frM.refl _).trans (frM.scr (by unfold mn; omega)))).note hPI2 hFI2
        have hKI2 : MK I2 107 0 S.1 := hI2.1
        have loI2 : loC I I2 := (((frM.refl _).trans (frM.scr (by unfold mn; omega))).lo).trans hFI2.lo
        refine o_aload_n dX9_draws_37 rfl rfl ?_
        refine o_iload_n dX9_draws_38 rfl rfl ?_
        refine o_iload_n dX9_draws_39 rfl rfl ?_
        refine o_callV (as := [.int (nI j), .int (nI a)]) (st := []) dX9_draws_40 (c_goes hKI2 hok hj ha1 (by omega)) rfl meX9_goes imX9_goes seX9_goes mlX9_134 sh_106 rfl rfl (by omega) (by decide) (Nat.le_of_ble_eq_true rfl) ?_
        rintro _ _ ⟨rfl, rfl⟩
        have hgo := kgoes_le (a := a) (hok.2 j hj)
        refine o_istore_n dX9_draws_43 rfl (by decide) ?_
        refine o_iload_n dX9_draws_44 rfl rfl ?_
        refine o_ifN_ge (tgt := 52) dX9_draws_45 (by decide) (by omega) ?_
        refine o_aload_n dX9_draws_52 rfl rfl ?_
        refine o_iload_n dX9_draws_53 rfl rfl ?_
        refine o_iconst (v := nI 4) dX9_draws_54 (by decide) ?_
        refine o_callV (as := [.int (nI j), .int (nI 4)]) (st := []) dX9_draws_55 (c_ofK ((hKI2.put hn hj (by decide)).put hn hj (by decide)) hn hj (by decide)) rfl meX9_of imX9_of seX9_of mlX9_103 sh_106 rfl rfl (by omega) (by decide) (Nat.le_of_ble_eq_true rfl) ?_
        rintro _ _ ⟨rfl, rfl⟩
        exact o_iret dX9_draws_58 rfl (by rw [show sp_draws S (nI j) (nI a) = (nI (S.1.2 j 4 - a), st_do S (kdraw S.1 j a)) by simp only [sp_draws, cg_ix_some hj (by omega : S.1.1 ≤ 2 ^ 31), cg_in_n ha1 ha2, if_neg (show ¬ S.1.2 j 4 < a by omega)]]; exact ⟨by rw [kset_x (by omega), kset_s], hI2.casks ((hKI2.put hn hj (by decide)).put hn hj (by decide)) (fun a k z => (up2_x (by omega)).trans (up2_x (by omega))), loI2.trans (fun a k z => (up2_x (by omega)).trans (up2_x (by omega)))⟩)
      · refine o_bipush (v := (-2)) dX9_draws_30 (by decide) ?_
        exact o_iret dX9_draws_32 rfl (by rw [show sp_draws S (nI j) (nI a) = (-2, S) by simp only [sp_draws, cg_ix_some hj (by omega : S.1.1 ≤ 2 ^ 31), cg_in_n ha1 ha2, if_pos (show S.1.2 j 4 < a by omega)]]; exact ⟨rfl, hM.fr ((frM.refl _).trans (frM.scr (by unfold mn; omega))), ((frM.refl _).trans (frM.scr (by unfold mn; omega))).lo⟩)
    · refine o_iconst (v := (-1)) dX9_draws_18 (by decide) ?_
      exact o_iret dX9_draws_19 rfl (by rw [show sp_draws S (nI j) n = (-1, S) by simp only [sp_draws, cg_ix_some hj (by omega : S.1.1 ≤ 2 ^ 31), lt1_in (i32_nle b_8)]]; exact ⟨rfl, hM.fr ((frM.refl _).trans (frM.scr (by unfold mn; omega))), ((frM.refl _).trans (frM.scr (by unfold mn; omega))).lo⟩)
  · refine o_ifN_eq (tgt := 18) dX9_draws_10 (by decide) (by omega) (fun b_11 => ?_) (fun b_11 => absurd b_11 (by omega))
    refine o_iconst (v := (-1)) dX9_draws_18 (by decide) ?_
    exact o_iret dX9_draws_19 rfl (by rw [show sp_draws S c n = (-1, S) by simp only [sp_draws, hno]]; exact ⟨rfl, hM.fr ((frM.refl _).trans (frM.scr (by unfold mn; omega))), ((frM.refl _).trans (frM.scr (by unfold mn; omega))).lo⟩)

theorem MK.same {I : sm_I} {a off : Nat} {K K' : KT} (h : MK I a off K) (he : K.1 = K'.1 ∧ ∀ c f, c < K.1 → f < 6 → K.2 c f = K'.2 c f) : MK I a off K' := ⟨by rw [← he.1]; exact h.1, fun c f hc hf => by rw [← he.2 c f (by rw [he.1]; exact hc) hf]; exact h.2 c f (by rw [he.1]; exact hc) hf⟩
theorem pour_eq {K : KT} {j i a : Nat} (hne : ¬ j = i) : (kset (kset (kset (kset K j 4 (K.2 j 4 - a)) j 5 (K.2 j 5 - kgoes K j a)) i 5 (K.2 i 5 + kgoes K j a)) i 4 (K.2 i 4 + a)).1 = (kpour K j i a).1 ∧ ∀ c f, c < (kset (kset (kset (kset K j 4 (K.2 j 4 - a)) j 5 (K.2 j 5 - kgoes K j a)) i 5 (K.2 i 5 + kgoes K j a)) i 4 (K.2 i 4 + a)).1 → f < 6 → (kset (kset (kset (kset K j 4 (K.2 j 4 - a)) j 5 (K.2 j 5 - kgoes K j a)) i 5 (K.2 i 5 + kgoes K j a)) i 4 (K.2 i 4 + a)).2 c f = (kpour K j i a).2 c f := by
  refine ⟨rfl, fun c f _ _ => ?_⟩
  unfold kpour kdraw
  by_cases h4 : c = i ∧ f = 4
  · obtain ⟨rfl, rfl⟩ := h4
    rw [kset_s, kset_x (by omega), kset_s]
  · rw [kset_x h4]
    by_cases h5 : c = i ∧ f = 5
    · obtain ⟨rfl, rfl⟩ := h5
      rw [kset_s, kset_s]
    · rw [kset_x h5, kset_x h5, kset_x h4]

set_option maxHeartbeats 4000000 in
set_option maxRecDepth 100000 in
theorem m_pours {I : sm_I} {S : ST} (hM : MI I S) (hS : okS S) (c e n : Int32) : E0 6 mX9_pours [.ref 106, .int c, .int e, .int n] I (fun r I' => r = some (.int (sp_pours S c e n).1) ∧ MI I' (sp_pours S c e n).2 ∧ loC I I') := by
  have hK := hM.1
  have hok := hS.1
  have hn := hok.1
  refine E0.of (by decide) (by simp [Value.category]) (Nat.le_of_ble_eq_true rfl) (fun ζ => ?_)
  refine o_aload_n dX9_pours_0 rfl rfl ?_
  refine o_iconst (v := nI 0) dX9_pours_1 (by decide) ?_
  refine o_putI dX9_pours_2 flX9_39 sh_106 rfl ?_
  refine o_aload_n dX9_pours_5 rfl rfl ?_
  refine o_iload_n dX9_pours_6 rfl rfl ?_
  refine o_callV (as := [.int c]) (st := []) dX9_pours_7 (c_isCask (hK.frM ((frM.refl _).trans (frM.scr (by unfold mn; omega)))) hok c) rfl meX9_isCask imX9_isCask seX9_isCask mlX9_127 sh_106 rfl rfl (by omega) (by decide) (Nat.le_of_ble_eq_true rfl) ?_
  rintro _ _ ⟨rfl, ⟨j, hj, rfl, rfl⟩ | ⟨hno, rfl⟩⟩
  · refine o_ifN_eq (tgt := 31) dX9_pours_10 (by decide) (by omega) (fun b_12 => absurd b_12 (by omega)) (fun b_12 => ?_)
    refine o_aload_n dX9_pours_13 rfl rfl ?_
    refine o_iload_n dX9_pours_14 rfl rfl ?_
    refine o_callV (as := [.int e]) (st := []) dX9_pours_15 (c_isCask (hK.frM ((frM.refl _).trans (frM.scr (by unfold mn; omega)))) hok e) rfl meX9_isCask imX9_isCask seX9_isCask mlX9_127 sh_106 rfl rfl (by omega) (by decide) (Nat.le_of_ble_eq_true rfl) ?_
    rintro _ _ ⟨rfl, ⟨i, hi, rfl, rfl⟩ | ⟨hno2, rfl⟩⟩
    · refine o_ifN_eq (tgt := 31) dX9_pours_18 (by decide) (by omega) (fun b_13 => absurd b_13 (by omega)) (fun b_13 => ?_)
      refine o_iload_n dX9_pours_21 rfl rfl ?_
      refine o_iload_n dX9_pours_22 rfl rfl ?_
      refine o_icmpN_eq (tgt := 31) dX9_pours_23 (by decide) (by omega) (by omega) (fun b_14 => ?_) (fun b_14 => ?_)
      · refine o_iconst (v := (-1)) dX9_pours_31 (by decide) ?_
        exact o_iret dX9_pours_32 rfl (by rw [show sp_pours S (nI j) (nI i) n = (-1, S) by simp only [sp_pours, cg_ix_some hj (by omega : S.1.1 ≤ 2 ^ 31), cg_ix_some hi (by omega : S.1.1 ≤ 2 ^ 31), if_pos b_14]]; exact ⟨rfl, hM.fr ((frM.refl _).trans (frM.scr (by unfold mn; omega))), ((frM.refl _).trans (frM.scr (by unfold mn; omega))).lo⟩)
      · refine o_iload_n dX9_pours_26 rfl rfl ?_
        refine o_iconst (v := nI 1) dX9_pours_27 (by decide) ?_
        refine o_icmp_ge (tgt := 33) dX9_pours_28 (by decide) (fun b_15 => ?_) (fun b_15 => ?_)
        · obtain ⟨a, ha1, ha2, rfl⟩ := ge1_nat' b_15
          have hq := hok.2 j hj
          have hT := hq.lT
          have hH := hq.l2
          have hw := hq.w
          have hUl : ∀ y, y ≤ 40 → cU S.1 j y ≤ 67200 := fun y hy => hq.lU hy
          have q6 := hq.2.2.2.2.2.2.1
          have q5 := hq.2.2.2.2.2.1
          have hqi := hok.2 i hi
          have hTi := hqi.lT
          have hHi := hqi.l2
          have hwi := hqi.w
          have hUli : ∀ y, y ≤ 40 → cU S.1 i y ≤ 67200 := fun y hy => hqi.lU hy
          have q6i := hqi.2.2.2.2.2.2.1
          have q5i := hqi.2.2.2.2.2.1
          refine o_aload_n dX9_pours_33 rfl rfl ?_
          refine o_iload_n dX9_pours_34 rfl rfl ?_
          refine o_iconst (v := nI 4) dX9_pours_35 (by decide) ?_
          refine o_callV (as := [.int (nI j), .int (nI 4)]) (st := []) dX9_pours_36 (c_ofK (hK.frM ((frM.refl _).trans (frM.scr (by unfold mn; omega)))) hn hj (by decide)) rfl meX9_of imX9_of seX9_of mlX9_103 sh_106 rfl rfl (by omega) (by decide) (Nat.le_of_ble_eq_true rfl) ?_
          rintro _ _ ⟨rfl, rfl⟩
          refine o_iload_n dX9_pours_39 rfl rfl ?_
          refine o_icmpN_ge (tgt := 46) dX9_pours_40 (by decide) (by omega) (by omega) (fun b_16 => ?_) (fun b_16 => ?_)
          · refine o_iload_n dX9_pours_46 rfl rfl ?_
            refine o_aload_n dX9_pours_47 rfl rfl ?_
            refine o_iload_n dX9_pours_48 rfl rfl ?_
            refine o_callV (as := [.int (nI i)]) (st := [.int (nI a)]) dX9_pours_49 (c_hold (hK.frM ((frM.refl _).trans (frM.scr (by unfold mn; omega)))) hok hi) rfl meX9_hold imX9_hold seX9_hold mlX9_131 sh_106 rfl rfl (by omega) (by decide) (Nat.le_of_ble_eq_true rfl) ?_
            rintro _ I1 ⟨rfl, hUI1, hFI1⟩
            have hqi := hok.2 i hi
            have hTi := hqi.lT
            have hHi := hqi.l2
            have hwi := hqi.w
            have hUli : ∀ y, y ≤ 40 → cU S.1 i y ≤ 67200 := fun y hy => hqi.lU hy
            have q6i := hqi.2.2.2.2.2.2.1
            have q5i := hqi.2.2.2.2.2.1
            refine o_aload_n dX9_pours_52 rfl rfl ?_
            refine o_iload_n dX9_pours_53 rfl rfl ?_
            refine o_iconst (v := nI 4) dX9_pours_54 (by decide) ?_
            refine o_callV (as := [.int (nI i), .int (nI 4)]) (st := [.int (nI (cH S.1 i)), .int (nI a)]) dX9_pours_55 (c_ofK (hK.frM (((frM.refl _).trans (frM.scr (by unfold mn; omega))).trans hFI1.M)) hn hi (by decide)) rfl meX9_of imX9_of seX9_of mlX9_103 sh_106 rfl rfl (by omega) (by decide) (Nat.le_of_ble_eq_true rfl) ?_
            rintro _ _ ⟨rfl, rfl⟩
            refine o_isubN dX9_pours_58 (by omega) ?_
            refine o_icmpN_le (tgt := 65) dX9_pours_59 (by decide) (by omega) (by omega) (fun b_17 => ?_) (fun b_17 => ?_)
            · refine o_aload_n dX9_pours_65 rfl rfl ?_
              refine o_callV (as := []) (st := []) dX9_pours_66 (c_notes (hK.frM (((frM.refl _).trans (frM.scr (by unfold mn; omega))).trans hFI1.M)) hn (hM.fr (((frM.refl _).trans (frM.scr (by unfold mn; omega))).trans hFI1.M)).MP hS.2.2.1.1 (fun k hk => (hS.2.2.1.2 k hk).1)) rfl meX9_notes imX9_notes seX9_notes mlX9_100 sh_106 rfl rfl (by omega) (by decide) (Nat.le_of_ble_eq_true rfl) ?_
              rintro _ I2 ⟨rfl, hPI2, hFI2⟩
              have hI2 := (hM.fr (((frM.refl _).trans (frM.scr (by unfold mn; omega))).trans hFI1.M)).note hPI2 hFI2
              have hKI2 : MK I2 107 0 S.1 := hI2.1
              have loI2 : loC I I2 := ((((frM.refl _).trans (frM.scr (by unfold mn; omega))).trans hFI1.M).lo).trans hFI2.lo
              refine o_aload_n dX9_pours_69 rfl rfl ?_
              refine o_getR (b := 107) dX9_pours_70 fgX9_7 sh_106 rfl rfl ?_
              refine o_bipush (v := nI 6) dX9_pours_73 (by decide) ?_
              refine o_iload_n dX9_pours_75 rfl rfl ?_
              refine o_imulN dX9_pours_76 ?_
              refine o_iconst (v := nI 5) dX9_pours_77 (by decide) ?_
              refine o_iaddN dX9_pours_78 ?_
              refine o_dup2 dX9_pours_79 rfl rfl ?_
              refine o_ialdN (v := nI (S.1.2 i 5)) dX9_pours_80 sh_107 (by decide) (by omega) (hKI2.at0 hi (by decide)) ?_
              refine o_aload_n dX9_pours_81 rfl rfl ?_
              refine o_iload_n dX9_pours_82 rfl rfl ?_
              refine o_iload_n dX9_pours_83 rfl rfl ?_
              refine o_callV (as := [.int (nI j), .int (nI a)]) (st := [.int (nI (S.1.2 i 5)), .int (nI ((6 * i) + 5)), .ref 107]) dX9_pours_84 (c_goes hKI2 hok hj ha1 (by omega)) rfl meX9_goes imX9_goes seX9_goes mlX9_134 sh_106 rfl rfl (by omega) (by decide) (Nat.le_of_ble_eq_true rfl) ?_
              rintro _ _ ⟨rfl, rfl⟩
              have hgo := kgoes_le (a := a) (hok.2 j hj)
              refine o_iaddN dX9_pours_87 ?_
              refine o_iastN dX9_pours_88 sh_107 (by decide) (by omega) ?_
              refine o_aload_n dX9_pours_89 rfl rfl ?_
              refine o_getR (b := 107) dX9_pours_90 fgX9_7 sh_106 rfl rfl ?_
              refine o_bipush (v := nI 6) dX9_pours_93 (by decide) ?_
              refine o_iload_n dX9_pours_95 rfl rfl ?_
              refine o_imulN dX9_pours_96 ?_
              refine o_iconst (v := nI 4) dX9_pours_97 (by decide) ?_
              refine o_iaddN dX9_pours_98 ?_
              refine o_dup2 dX9_pours_99 rfl rfl ?_
              refine o_ialdN (v := nI (S.1.2 i 4)) dX9_pours_100 sh_107 (by decide) (by omega) ((up2_x (by omega)).trans ((up2_x (by omega)).trans ((up2_x (by omega)).trans (hKI2.at0 hi (by decide))))) ?_
              refine o_iload_n dX9_pours_101 rfl rfl ?_
              refine o_iaddN dX9_pours_102 ?_
              refine o_iastN dX9_pours_103 sh_107 (by decide) (by omega) ?_
              refine o_aload_n dX9_pours_104 rfl rfl ?_
              refine o_iload_n dX9_pours_105 rfl rfl ?_
              refine o_iconst (v := nI 4) dX9_pours_106 (by decide) ?_
              refine o_callV (as := [.int (nI i), .int (nI 4)]) (st := []) dX9_pours_107 (c_ofK ((((hKI2.put hn hj (by decide)).put hn hj (by decide)).put hn hi (by decide)).put hn hi (by decide)) hn hi (by decide)) rfl meX9_of imX9_of seX9_of mlX9_103 sh_106 rfl rfl (by omega) (by decide) (Nat.le_of_ble_eq_true rfl) ?_
              rintro _ _ ⟨rfl, rfl⟩
              exact o_iret dX9_pours_110 rfl (by rw [show sp_pours S (nI j) (nI i) (nI a) = (nI (S.1.2 i 4 + a), st_do S (kpour S.1 j i a)) by simp only [sp_pours, cg_ix_some hj (by omega : S.1.1 ≤ 2 ^ 31), cg_ix_some hi (by omega : S.1.1 ≤ 2 ^ 31), if_neg b_14, cg_in_n ha1 ha2, if_neg (show ¬ S.1.2 j 4 < a by omega), if_neg (show ¬ cH S.1 i - S.1.2 i 4 < a by omega)]]; exact ⟨by rw [kset_s], hI2.casks (MK.same (((((((hKI2.put hn hj (by decide)).put hn hj (by decide)).put hn hi (by decide)).put hn hi (by decide)) ) )) (pour_eq b_14)) (fun a k z => (up2_x (by omega)).trans ((up2_x (by omega)).trans ((up2_x (by omega)).trans (up2_x (by omega))))), loI2.trans (fun a k z => (up2_x (by omega)).trans ((up2_x (by omega)).trans ((up2_x (by omega)).trans (up2_x (by omega)))))⟩)
            · refine o_bipush (v := (-3)) dX9_pours_62 (by decide) ?_
              exact o_iret dX9_pours_64 rfl (by rw [show sp_pours S (nI j) (nI i) (nI a) = (-3, S) by simp only [sp_pours, cg_ix_some hj (by omega : S.1.1 ≤ 2 ^ 31), cg_ix_some hi (by omega : S.1.1 ≤ 2 ^ 31), if_neg b_14, cg_in_n ha1 ha2, if_neg (show ¬ S.1.2 j 4 < a by omega), if_pos (show cH S.1 i - S.1.2 i 4 < a by omega)]]; exact ⟨rfl, hM.fr (((frM.refl _).trans (frM.scr (by unfold mn; omega))).trans hFI1.M), (((frM.refl _).trans (frM.scr (by unfold mn; omega))).trans hFI1.M).lo⟩)
          · refine o_bipush (v := (-2)) dX9_pours_43 (by decide) ?_
            exact o_iret dX9_pours_45 rfl (by rw [show sp_pours S (nI j) (nI i) (nI a) = (-2, S) by simp only [sp_pours, cg_ix_some hj (by omega : S.1.1 ≤ 2 ^ 31), cg_ix_some hi (by omega : S.1.1 ≤ 2 ^ 31), if_neg b_14, cg_in_n ha1 ha2, if_pos (show S.1.2 j 4 < a by omega)]]; exact ⟨rfl, hM.fr ((frM.refl _).trans (frM.scr (by unfold mn; omega))), ((frM.refl _).trans (frM.scr (by unfold mn; omega))).lo⟩)
        · refine o_iconst (v := (-1)) dX9_pours_31 (by decide) ?_
          exact o_iret dX9_pours_32 rfl (by rw [show sp_pours S (nI j) (nI i) n = (-1, S) by simp only [sp_pours, cg_ix_some hj (by omega : S.1.1 ≤ 2 ^ 31), cg_ix_some hi (by omega : S.1.1 ≤ 2 ^ 31), if_neg b_14, lt1_in (i32_nle b_15)]]; exact ⟨rfl, hM.fr ((frM.refl _).trans (frM.scr (by unfold mn; omega))), ((frM.refl _).trans (frM.scr (by unfold mn; omega))).lo⟩)
    · refine o_ifN_eq (tgt := 31) dX9_pours_18 (by decide) (by omega) (fun b_18 => ?_) (fun b_18 => absurd b_18 (by omega))
      refine o_iconst (v := (-1)) dX9_pours_31 (by decide) ?_
      exact o_iret dX9_pours_32 rfl (by rw [show sp_pours S (nI j) e n = (-1, S) by simp only [sp_pours, cg_ix_some hj (by omega : S.1.1 ≤ 2 ^ 31), hno2]]; exact ⟨rfl, hM.fr ((frM.refl _).trans (frM.scr (by unfold mn; omega))), ((frM.refl _).trans (frM.scr (by unfold mn; omega))).lo⟩)
  · refine o_ifN_eq (tgt := 31) dX9_pours_10 (by decide) (by omega) (fun b_19 => ?_) (fun b_19 => absurd b_19 (by omega))
    refine o_iconst (v := (-1)) dX9_pours_31 (by decide) ?_
    exact o_iret dX9_pours_32 rfl (by rw [show sp_pours S c e n = (-1, S) by simp only [sp_pours, hno]]; exact ⟨rfl, hM.fr ((frM.refl _).trans (frM.scr (by unfold mn; omega))), ((frM.refl _).trans (frM.scr (by unfold mn; omega))).lo⟩)

set_option maxHeartbeats 4000000 in
set_option maxRecDepth 100000 in
theorem m_turnsOver {I : sm_I} {S : ST} (hM : MI I S) (hS : okS S) (c : Int32) : E0 6 mX9_turnsOver [.ref 106, .int c] I (fun r I' => r = some (.int (sp_turnsOver S c).1) ∧ MI I' (sp_turnsOver S c).2 ∧ loC I I') := by
  have hK := hM.1
  have hok := hS.1
  have hn := hok.1
  refine E0.of (by decide) (by simp [Value.category]) (Nat.le_of_ble_eq_true rfl) (fun ζ => ?_)
  refine o_aload_n dX9_turnsOver_0 rfl rfl ?_
  refine o_iconst (v := nI 0) dX9_turnsOver_1 (by decide) ?_
  refine o_putI dX9_turnsOver_2 flX9_39 sh_106 rfl ?_
  refine o_aload_n dX9_turnsOver_5 rfl rfl ?_
  refine o_iload_n dX9_turnsOver_6 rfl rfl ?_
  refine o_callV (as := [.int c]) (st := []) dX9_turnsOver_7 (c_isCask (hK.frM ((frM.refl _).trans (frM.scr (by unfold mn; omega)))) hok c) rfl meX9_isCask imX9_isCask seX9_isCask mlX9_127 sh_106 rfl rfl (by omega) (by decide) (Nat.le_of_ble_eq_true rfl) ?_
  rintro _ _ ⟨rfl, ⟨j, hj, rfl, rfl⟩ | ⟨hno, rfl⟩⟩
  · refine o_ifN_ne (tgt := 15) dX9_turnsOver_10 (by decide) (by omega) (fun b_20 => ?_) (fun b_20 => absurd b_20 (by omega))
    refine o_aload_n dX9_turnsOver_15 rfl rfl ?_
    refine o_callV (as := []) (st := []) dX9_turnsOver_16 (c_notes (hK.frM ((frM.refl _).trans (frM.scr (by unfold mn; omega)))) hn (hM.fr ((frM.refl _).trans (frM.scr (by unfold mn; omega)))).MP hS.2.2.1.1 (fun k hk => (hS.2.2.1.2 k hk).1)) rfl meX9_notes imX9_notes seX9_notes mlX9_100 sh_106 rfl rfl (by omega) (by decide) (Nat.le_of_ble_eq_true rfl) ?_
    rintro _ I2 ⟨rfl, hPI2, hFI2⟩
    have hI2 := (hM.fr ((frM.refl _).trans (frM.scr (by unfold mn; omega)))).note hPI2 hFI2
    have hKI2 : MK I2 107 0 S.1 := hI2.1
    have loI2 : loC I I2 := (((frM.refl _).trans (frM.scr (by unfold mn; omega))).lo).trans hFI2.lo
    refine o_aload_n dX9_turnsOver_19 rfl rfl ?_
    refine o_getR (b := 107) dX9_turnsOver_20 fgX9_7 sh_106 rfl rfl ?_
    refine o_bipush (v := nI 6) dX9_turnsOver_23 (by decide) ?_
    refine o_iload_n dX9_turnsOver_25 rfl rfl ?_
    refine o_imulN dX9_turnsOver_26 ?_
    refine o_iconst (v := nI 3) dX9_turnsOver_27 (by decide) ?_
    refine o_iaddN dX9_turnsOver_28 ?_
    refine o_iconst (v := nI 1) dX9_turnsOver_29 (by decide) ?_
    refine o_aload_n dX9_turnsOver_30 rfl rfl ?_
    refine o_iload_n dX9_turnsOver_31 rfl rfl ?_
    refine o_iconst (v := nI 3) dX9_turnsOver_32 (by decide) ?_
    refine o_callV (as := [.int (nI j), .int (nI 3)]) (st := [.int (nI 1), .int (nI ((6 * j) + 3)), .ref 107]) dX9_turnsOver_33 (c_ofK hKI2 hn hj (by decide)) rfl meX9_of imX9_of seX9_of mlX9_103 sh_106 rfl rfl (by omega) (by decide) (Nat.le_of_ble_eq_true rfl) ?_
    rintro _ _ ⟨rfl, rfl⟩
    have hq := hok.2 j hj
    have hT := hq.lT
    have hH := hq.l2
    have hw := hq.w
    have hUl : ∀ y, y ≤ 40 → cU S.1 j y ≤ 67200 := fun y hy => hq.lU hy
    have q6 := hq.2.2.2.2.2.2.1
    have q5 := hq.2.2.2.2.2.1
    refine o_isubN dX9_turnsOver_36 (by omega) ?_
    refine o_iastN dX9_turnsOver_37 sh_107 (by decide) (by omega) ?_
    refine o_aload_n dX9_turnsOver_38 rfl rfl ?_
    refine o_iload_n dX9_turnsOver_39 rfl rfl ?_
    refine o_iconst (v := nI 3) dX9_turnsOver_40 (by decide) ?_
    refine o_callV (as := [.int (nI j), .int (nI 3)]) (st := []) dX9_turnsOver_41 (c_ofK (hKI2.put hn hj (by decide)) hn hj (by decide)) rfl meX9_of imX9_of seX9_of mlX9_103 sh_106 rfl rfl (by omega) (by decide) (Nat.le_of_ble_eq_true rfl) ?_
    rintro _ _ ⟨rfl, rfl⟩
    exact o_iret dX9_turnsOver_44 rfl (by rw [show sp_turnsOver S (nI j) = (nI (1 - S.1.2 j 3), st_do S (kturn S.1 j)) by simp only [sp_turnsOver, cg_ix_some hj (by omega : S.1.1 ≤ 2 ^ 31)]]; exact ⟨by rw [kset_s], hI2.casks (hKI2.put hn hj (by decide)) (fun a k z => up2_x (by omega)), loI2.trans (fun a k z => up2_x (by omega))⟩)
  · refine o_ifN_ne (tgt := 15) dX9_turnsOver_10 (by decide) (by omega) (fun b_21 => absurd b_21 (by omega)) (fun b_21 => ?_)
    refine o_iconst (v := (-1)) dX9_turnsOver_13 (by decide) ?_
    exact o_iret dX9_turnsOver_14 rfl (by rw [show sp_turnsOver S c = (-1, S) by simp only [sp_turnsOver, hno]]; exact ⟨rfl, hM.fr ((frM.refl _).trans (frM.scr (by unfold mn; omega))), ((frM.refl _).trans (frM.scr (by unfold mn; omega))).lo⟩)

theorem lp_undo {ζ : sm_Z} {d : Nat} {I0 : sm_I} {Q : Option Value → sm_I → Prop} {u : Nat} (hu7 : u ≤ 7) (hq : ∀ I' : sm_I, (∀ q, q < 25 → I' 107 q = I0 109 (25 * u + q)) → (∀ a k, a ≠ 107 → I' a k = I0 a k) → Q (some (.int (nI u))) I') : ∀ (f k : Nat) (I : sm_I), k + f = 25 → I 106 4 = nI u → (∀ q, q < k → I 107 q = I0 109 (25 * u + q)) → (∀ a k, a ≠ 107 → I a k = I0 a k) → X0 ζ d mX9_undo 27 [some (.ref 106), some (.int (nI k))] [] I Q := by
  intro f
  induction f with
  | zero =>
    intro k I hk hu h1 h3
    have hkk : k = 25 := by omega
    subst hkk
    refine o_iload_n dX9_undo_27 rfl rfl ?_
    refine o_bipush (v := nI 25) dX9_undo_28 (by decide) ?_
    refine o_icmpN_ge (tgt := 59) dX9_undo_30 (by decide) (by omega) (by omega) (fun b_22 => ?_) (fun b_22 => absurd b_22 (by omega))
    refine o_aload_n dX9_undo_59 rfl rfl ?_
    refine o_getI (v := nI u) dX9_undo_60 fgX9_124 sh_106 rfl hu ?_
    exact o_iret dX9_undo_63 rfl (hq _ h1 h3)
  | succ f ih =>
    intro k I hk hu h1 h3
    refine o_iload_n dX9_undo_27 rfl rfl ?_
    refine o_bipush (v := nI 25) dX9_undo_28 (by decide) ?_
    refine o_icmpN_ge (tgt := 59) dX9_undo_30 (by decide) (by omega) (by omega) (fun b_23 => absurd b_23 (by omega)) (fun b_23 => ?_)
    refine o_aload_n dX9_undo_33 rfl rfl ?_
    refine o_getR (b := 107) dX9_undo_34 fgX9_7 sh_106 rfl rfl ?_
    refine o_iload_n dX9_undo_37 rfl rfl ?_
    refine o_aload_n dX9_undo_38 rfl rfl ?_
    refine o_getR (b := 109) dX9_undo_39 fgX9_16 sh_106 rfl rfl ?_
    refine o_bipush (v := nI 25) dX9_undo_42 (by decide) ?_
    refine o_aload_n dX9_undo_44 rfl rfl ?_
    refine o_getI (v := nI u) dX9_undo_45 fgX9_124 sh_106 rfl hu ?_
    refine o_imulN dX9_undo_48 ?_
    refine o_iload_n dX9_undo_49 rfl rfl ?_
    refine o_iaddN dX9_undo_50 ?_
    refine o_ialdN (v := I 109 ((25 * u) + k)) dX9_undo_51 sh_109 (by decide) (by omega) rfl ?_
    refine o_iastN dX9_undo_52 sh_107 (by decide) (by omega) ?_
    refine o_iincN (w := 1) dX9_undo_53 rfl (by decide) (by decide) ?_
    refine o_goto (tgt := 27) dX9_undo_56 (by decide) ?_
    refine ih (k + 1) _ (by omega) ((up2_x (by omega)).trans hu) (fun q hq => ?_) (fun a k z => (up2_x (by omega)).trans (h3 a k z))
    rcases Nat.lt_or_ge q k with z | z
    · exact (up2_x (by omega)).trans (h1 q z)
    · have hqq : q = k := by omega
      subst hqq
      exact up2_s.trans (h3 109 _ (by decide))

set_option maxHeartbeats 4000000 in
set_option maxRecDepth 100000 in
theorem m_undo {I : sm_I} {S : ST} (hM : MI I S) (hS : okS S) : E0 6 mX9_undo [.ref 106] I (fun r I' => r = some (.int (sp_undo S).1) ∧ MI I' (sp_undo S).2 ∧ loC I I') := by
  have hp8 := hS.2.2.1.1
  refine E0.of (by decide) (by simp [Value.category]) (Nat.le_of_ble_eq_true rfl) (fun ζ => ?_)
  refine o_aload_n dX9_undo_0 rfl rfl ?_
  refine o_iconst (v := nI 0) dX9_undo_1 (by decide) ?_
  refine o_putI dX9_undo_2 flX9_39 sh_106 rfl ?_
  refine o_aload_n dX9_undo_5 rfl rfl ?_
  refine o_getI (v := nI S.2.2.1.1) dX9_undo_6 fgX9_124 sh_106 rfl ((up2_x (by omega)).trans hM.MP.1) ?_
  refine o_ifN_ne (tgt := 15) dX9_undo_9 (by decide) (by omega) (fun b_24 => ?_) (fun b_24 => ?_)
  · refine o_aload_n dX9_undo_15 rfl rfl ?_
    refine o_dup dX9_undo_16 rfl ?_
    refine o_getI (v := nI S.2.2.1.1) dX9_undo_17 fgX9_124 sh_106 rfl ((up2_x (by omega)).trans hM.MP.1) ?_
    refine o_iconst (v := nI 1) dX9_undo_20 (by decide) ?_
    refine o_isubN dX9_undo_21 (by omega) ?_
    refine o_putI dX9_undo_22 flX9_124 sh_106 rfl ?_
    refine o_iconst (v := nI 0) dX9_undo_25 (by decide) ?_
    refine o_istore_n dX9_undo_26 rfl (by decide) ?_
    have hp8 := hS.2.2.1.1
    refine lp_undo (I0 := up2 (up2 I 106 0 (nI 0)) 106 4 (nI (S.2.2.1.1 - 1))) (u := S.2.2.1.1 - 1) (by omega) (fun I2 g1 g2 => ?_) 25 0 _ (by omega) up2_s (fun q hq => by omega) (fun _ _ _ => rfl)
    have e : sp_undo S = (nI (S.2.2.1.1 - 1), (S.2.2.1.2 (S.2.2.1.1 - 1), S.2.1, (S.2.2.1.1 - 1, S.2.2.1.2), S.2.2.2)) := by unfold sp_undo; rw [if_neg (by omega)]
    rw [e]
    have g3 : ∀ a k, ¬ (a = 106 ∧ (k = 0 ∨ k = 4)) → a ≠ 107 → I2 a k = I a k := fun a k z1 z2 => (g2 a k z2).trans ((up2_x (by omega)).trans (up2_x (by omega)))
    have hM1 := hM
    obtain ⟨h1, ⟨h2, h3⟩, ⟨h4, h5⟩, h6, h7, h8⟩ := hM1
    refine ⟨rfl, ⟨(h5 (S.2.2.1.1 - 1) (by omega)).mv (hS.2.2.1.2 _ (by omega)).1 (fun q hq => by rw [Nat.zero_add, g1 q hq, up2_x (by omega), up2_x (by omega)]), ⟨(g3 _ _ (by omega) (by omega)).trans h2, fun j hj => (g3 _ _ (by omega) (by omega)).trans (h3 j hj)⟩, ⟨(g2 _ _ (by omega)).trans up2_s, fun k hk => (h5 k (by have hk2 : k < S.2.2.1.1 - 1 := hk; omega)).of (fun k => g3 109 k (by omega) (by omega))⟩, fun i hi => ⟨fun q => (g3 _ _ (by omega) (by omega)).trans ((h6 i hi).1 q), fun K q => ⟨(g3 _ _ (by omega) (by omega)).trans ((h6 i hi).2 K q).1, ((h6 i hi).2 K q).2.of (fun k => g3 110 k (by omega) (by omega))⟩⟩, (g3 _ _ (by omega) (by omega)).trans h7, fun j hj => ⟨(g3 _ _ (by omega) (by omega)).trans (h8 j hj).1, (g3 _ _ (by omega) (by omega)).trans (h8 j hj).2⟩⟩, fun a k z => g3 a k (by omega) (by omega)⟩
  · refine o_bipush (v := (-2)) dX9_undo_12 (by decide) ?_
    exact o_iret dX9_undo_14 rfl (by rw [show sp_undo S = (-2, S) by unfold sp_undo; rw [if_pos b_24]]; exact ⟨rfl, hM.fr ((frM.refl _).trans (frM.scr (by unfold mn; omega))), ((frM.refl _).trans (frM.scr (by unfold mn; omega))).lo⟩)
end
section
/-! ===== the parts of MI, carried over ===== -/
def MT (I : sm_I) (T : Nat × (Nat → Nat)) : Prop := I 106 10 = nI T.1 ∧ ∀ j, j < T.1 → I 113 j = (nI (T.2 j)).toInt8.toInt32
def MIm (I : sm_I) (im : Nat → Option KT) : Prop := ∀ i, i < 2 → (im i = none → I 111 i = nI 0) ∧ ∀ K, im i = some K → I 111 i = nI 1 ∧ MK I 110 (25 * i) K
def MSn (I : sm_I) (N : Nat × (Nat → Nat) × (Nat → Nat)) : Prop := I 106 8 = nI N.1 ∧ ∀ j, j < N.1 → I 112 (2 * j) = nI (N.2.1 j) ∧ I 112 (2 * j + 1) = nI (N.2.2 j)
theorem mI_mk {I : sm_I} {S : ST} (h1 : MK I 107 0 S.1) (h2 : MT I S.2.1) (h3 : MP I S.2.2.1) (h4 : MIm I S.2.2.2.1) (h5 : MSn I S.2.2.2.2) : MI I S := ⟨h1, h2, h3, h4, h5⟩
theorem MI.T {I : sm_I} {S : ST} (h : MI I S) : MT I S.2.1 := h.2.1
theorem MI.Im {I : sm_I} {S : ST} (h : MI I S) : MIm I S.2.2.2.1 := h.2.2.2.1
theorem MI.Sn {I : sm_I} {S : ST} (h : MI I S) : MSn I S.2.2.2.2 := h.2.2.2.2
theorem MT.of {I I' : sm_I} {T : Nat × (Nat → Nat)} (h : MT I T) (h1 : I' 106 10 = I 106 10) (h2 : ∀ k, I' 113 k = I 113 k) : MT I' T := ⟨h1.trans h.1, fun j hj => (h2 j).trans (h.2 j hj)⟩
theorem MP.of {I I' : sm_I} {P : PT} (h : MP I P) (h1 : I' 106 4 = I 106 4) (h2 : ∀ k, I' 109 k = I 109 k) : MP I' P := ⟨h1.trans h.1, fun k hk => (h.2 k hk).of h2⟩
theorem MIm.of {I I' : sm_I} {im : Nat → Option KT} (h : MIm I im) (h1 : ∀ k, I' 111 k = I 111 k) (h2 : ∀ k, I' 110 k = I 110 k) : MIm I' im := fun i hi => ⟨fun q => (h1 i).trans ((h i hi).1 q), fun K q => ⟨(h1 i).trans ((h i hi).2 K q).1, ((h i hi).2 K q).2.of h2⟩⟩
theorem MSn.of {I I' : sm_I} {N : Nat × (Nat → Nat) × (Nat → Nat)} (h : MSn I N) (h1 : I' 106 8 = I 106 8) (h2 : ∀ k, I' 112 k = I 112 k) : MSn I' N := ⟨h1.trans h.1, fun j hj => ⟨(h2 _).trans (h.2 j hj).1, (h2 _).trans (h.2 j hj).2⟩⟩
/-! ===== floats that are numbers ===== -/
theorem vf_of_mag {r : UInt32} {K : Nat} (h : r.toNat % 2 ^ 31 < K * 2 ^ 23) (hK : K ≤ 255) : vf_n32 r := by
  unfold vf_n32
  rw [UInt32.le_iff_toNat_le, UInt32.toNat_and]
  show r.toNat &&& (2 ^ 31 - 1) ≤ 2139095040
  rw [Nat.and_two_pow_sub_one_eq_mod]
  have : K * 2 ^ 23 ≤ 255 * 2 ^ 23 := Nat.mul_le_mul_right _ hK
  omega
def cg_str (s w : Nat) : UInt32 := FP.fdiv (FP.i2f (nI s)) (FP.i2f (nI w))
theorem cg_str_mag {s w : Nat} (h0 : 0 < w) (hw : w < 2 ^ 31) : (cg_str s w).toNat % 2 ^ 31 < 161 * 2 ^ 23 := by
  have h1 := Jvm.FP.Core.i2f_mag (nI s)
  have h2 := Jvm.FP.Core.i2f_big (v := nI w) (Jvm.FP.Core.int32_ne (nI_ne0 h0 hw))
  have h3 := Jvm.FP.Core.fdiv_mag h1 h2.1 h2.2 (by decide) (by decide)
  have e : (160 + (149 - 23 - 1) - 127 + 3) = 161 := by decide
  rw [e] at h3
  unfold cg_str
  exact h3
theorem cg_thou_mag {r : UInt32} {K : Nat} (h : r.toNat % 2 ^ 31 < K * 2 ^ 23) (hK : K ≤ 200) : vf_n32 (FP.fmul 1148846080 r) := by
  have h1 : (1148846080 : UInt32).toNat % 2 ^ 31 < 137 * 2 ^ 23 := by decide
  have h2 := Jvm.FP.Core.fmul_mag (a := 1148846080) h1 h (by decide) (by omega)
  exact vf_of_mag h2 (by omega)
def cg_thou (r : UInt32) : Int32 := FP.f2i (FP.fmul 1148846080 r)
/-! ===== more answers ===== -/
def sp_type (S : ST) (x : Int32) : Int32 × ST := match cg_in 0 255 x with
  | none => (-1, S)
  | some l => if S.2.1.1 = 60 then (-3, S) else (nI (S.2.1.1 + 1), (S.1, (S.2.1.1 + 1, fun j => if j = S.2.1.1 then l else S.2.1.2 j), S.2.2))
def sp_clear (S : ST) : Int32 × ST := (nI S.2.1.1, (S.1, (0, S.2.1.2), S.2.2))
def sp_sees (S : ST) (n y : Int32) : Int32 × ST := match cg_in 0 99999 n with
  | none => (-1, S)
  | some a => match cg_in 0 40 y with
    | none => (-1, S)
    | some b => if S.2.2.2.2.1 = 6 then (-3, S) else (nI (S.2.2.2.2.1 + 1), (S.1, S.2.1, S.2.2.1, S.2.2.2.1, (S.2.2.2.2.1 + 1, (fun j => if j = S.2.2.2.2.1 then a else S.2.2.2.2.2.1 j), (fun j => if j = S.2.2.2.2.1 then b else S.2.2.2.2.2.2 j))))
def sp_forget (S : ST) : Int32 × ST := (nI S.2.2.2.2.1, (S.1, S.2.1, S.2.2.1, S.2.2.2.1, (0, S.2.2.2.2.2)))
def sp_keep (S : ST) (i : Int32) : Int32 × ST := match cg_in 0 1 i with
  | none => (-1, S)
  | some a => (nI S.1.1, (S.1, S.2.1, S.2.2.1, (fun j => if j = a then some S.1 else S.2.2.2.1 j), S.2.2.2.2))
def sp_back (S : ST) (i : Int32) : Int32 × ST := match cg_in 0 1 i with
  | none => (-1, S)
  | some a => match S.2.2.2.1 a with
    | none => (-2, S)
    | some K => (nI K.1, (K, S.2.1, (0, S.2.2.1.2), S.2.2.2.1, S.2.2.2.2))
def sp_count (S : ST) (w : Int32) : Int32 := match cg_ix 6 w with
  | none => -1
  | some a => if a = 0 then nI S.1.1 else if a = 1 then nI (cg_sum (fun c => S.1.2 c 4) S.1.1) else if a = 2 then nI (cg_sum (fun c => S.1.2 c 5) S.1.1) else if a = 3 then nI S.2.2.2.2.1 else if a = 4 then nI S.2.1.1 else nI S.2.2.1.1
def sp_cask (K : KT) (c w : Int32) : Int32 := match cg_ix K.1 c with
  | none => -1
  | some j => match cg_ix 9 w with
    | none => -1
    | some a => if a < 4 then nI (K.2 j a) else if a = 4 then nI (cH K j) else if a = 5 then nI (K.2 j 4) else if a = 6 then nI (K.2 j 5) else if a = 7 then nI (cg_dip (cU K j) (cT K j) (K.2 j 4)) else if K.2 j 4 = 0 then -9 else cg_thou (cg_str (K.2 j 5) (K.2 j 4))
theorem okS.type {S : ST} (h : okS S) {l : Nat} (hl : l ≤ 255) (h60 : ¬ S.2.1.1 = 60) : okS (S.1, (S.2.1.1 + 1, fun j => if j = S.2.1.1 then l else S.2.1.2 j), S.2.2) := by
  obtain ⟨h1, ⟨h2, h3⟩, h4⟩ := h
  refine ⟨h1, ⟨by show S.2.1.1 + 1 ≤ 60; omega, fun j hj => ?_⟩, h4⟩
  have hj' : j < S.2.1.1 + 1 := hj
  show (if j = S.2.1.1 then l else S.2.1.2 j) < 256
  split
  · omega
  · exact h3 j (by omega)
theorem okS.sees {S : ST} (h : okS S) {a b : Nat} (ha : a ≤ 99999) (hb : b ≤ 40) (h6 : ¬ S.2.2.2.2.1 = 6) : okS (S.1, S.2.1, S.2.2.1, S.2.2.2.1, (S.2.2.2.2.1 + 1, (fun j => if j = S.2.2.2.2.1 then a else S.2.2.2.2.2.1 j), (fun j => if j = S.2.2.2.2.1 then b else S.2.2.2.2.2.2 j))) := by
  obtain ⟨h1, h2, h3, h4, h5, h7⟩ := h
  refine ⟨h1, h2, h3, h4, by show S.2.2.2.2.1 + 1 ≤ 6; omega, fun j hj => ?_⟩
  have hj' : j < S.2.2.2.2.1 + 1 := hj
  show (if j = S.2.2.2.2.1 then a else S.2.2.2.2.2.1 j) ≤ 99999 ∧ (if j = S.2.2.2.2.1 then b else S.2.2.2.2.2.2 j) ≤ 40
  split
  · exact ⟨ha, hb⟩
  · exact h7 j (by omega)
theorem okS.keep {S : ST} (h : okS S) {a : Nat} : okS (S.1, S.2.1, S.2.2.1, (fun j => if j = a then some S.1 else S.2.2.2.1 j), S.2.2.2.2) := by
  obtain ⟨h1, h2, h3, h4, h5⟩ := h
  refine ⟨h1, h2, h3, fun i K hi hK => ?_, h5⟩
  have hK' : (if i = a then some S.1 else S.2.2.2.1 i) = some K := hK
  split at hK'
  · cases hK'; exact h1
  · exact h4 i K hi hK'
end
section
theorem type_row {I : sm_I} {T : Nat × (Nat → Nat)} (h : MT I T) {p j : Nat} {v w : Int32} (hj : j < T.1 + 1) : up2 (up2 (up2 I 106 0 v) 113 T.1 (nI p).toInt8.toInt32) 106 10 w 113 j = (nI (if j = T.1 then p else T.2 j)).toInt8.toInt32 := by
  by_cases hx : j = T.1
  · subst hx
    rw [if_pos rfl]
    exact (up2_x (by omega)).trans up2_s
  · rw [if_neg hx]
    exact (up2_x (by omega)).trans ((up2_x (by omega)).trans ((up2_x (by omega)).trans (h.2 j (by omega))))
theorem i2b_narrow (x : Int32) : narrow .byte (.int x.toInt8.toInt32) = .int x.toInt8.toInt32 := pk_nb x

set_option maxHeartbeats 4000000 in
set_option maxRecDepth 100000 in
theorem m_type {I : sm_I} {S : ST} (hM : MI I S) (hS : okS S) (x : Int32) : E0 6 mX9_type [.ref 106, .int x] I (fun r I' => r = some (.int (sp_type S x).1) ∧ MI I' (sp_type S x).2 ∧ loC I I') := by
  have hK := hM.1
  have hok := hS.1
  have hn := hok.1
  have h60 := hS.2.1.1
  refine E0.of (by decide) (by simp [Value.category]) (Nat.le_of_ble_eq_true rfl) (fun ζ => ?_)
  refine o_aload_n dX9_type_0 rfl rfl ?_
  refine o_iconst (v := nI 0) dX9_type_1 (by decide) ?_
  refine o_putI dX9_type_2 flX9_39 sh_106 rfl ?_
  refine o_iload_n dX9_type_5 rfl rfl ?_
  refine o_iconst (v := nI 0) dX9_type_6 (by decide) ?_
  refine o_sipush (v := nI 255) dX9_type_7 (by decide) ?_
  refine o_callS (as := [.int x, .int (nI 0), .int (nI 255)]) (st := []) dX9_type_10 (c_in _ _ _ _) rfl meX9_in ssX9_in mlX9_43 (by omega) (by decide) (Nat.le_of_ble_eq_true rfl) ?_
  rintro _ _ ⟨rfl, ⟨hpa, hpb, rfl⟩ | ⟨hno, rfl⟩⟩
  · obtain ⟨p, hp1, hp2, rfl⟩ := in_nat (by omega) (by omega) hpa hpb
    refine o_ifN_ne (tgt := 18) dX9_type_13 (by decide) (by omega) (fun b_1 => ?_) (fun b_1 => absurd b_1 (by omega))
    refine o_aload_n dX9_type_18 rfl rfl ?_
    refine o_getI (v := nI S.2.1.1) dX9_type_19 fgX9_47 sh_106 rfl ((up2_x (by omega)).trans hM.T.1) ?_
    refine o_bipush (v := nI 60) dX9_type_22 (by decide) ?_
    refine o_icmpN_ne (tgt := 30) dX9_type_24 (by decide) (by omega) (by omega) (fun b_2 => ?_) (fun b_2 => ?_)
    · refine o_aload_n dX9_type_30 rfl rfl ?_
      refine o_getR (b := 113) dX9_type_31 fgX9_29 sh_106 rfl rfl ?_
      refine o_aload_n dX9_type_34 rfl rfl ?_
      refine o_getI (v := nI S.2.1.1) dX9_type_35 fgX9_47 sh_106 rfl ((up2_x (by omega)).trans hM.T.1) ?_
      refine o_iload_n dX9_type_38 rfl rfl ?_
      refine o_i2b dX9_type_39 ?_
      refine o_bastN (w := (nI p).toInt8.toInt32) dX9_type_40 sh_113 (by decide) (by omega) (i2b_narrow _) ?_
      refine o_aload_n dX9_type_41 rfl rfl ?_
      refine o_dup dX9_type_42 rfl ?_
      refine o_getI (v := nI S.2.1.1) dX9_type_43 fgX9_47 sh_106 rfl ((up2_x (by omega)).trans ((up2_x (by omega)).trans hM.T.1)) ?_
      refine o_iconst (v := nI 1) dX9_type_46 (by decide) ?_
      refine o_iaddN dX9_type_47 ?_
      refine o_putI dX9_type_48 flX9_47 sh_106 rfl ?_
      refine o_aload_n dX9_type_51 rfl rfl ?_
      refine o_getI (v := nI (S.2.1.1 + 1)) dX9_type_52 fgX9_47 sh_106 rfl up2_s ?_
      exact o_iret dX9_type_55 rfl (by rw [show sp_type S (nI p) = (nI (S.2.1.1 + 1), (S.1, (S.2.1.1 + 1, fun j => if j = S.2.1.1 then p else S.2.1.2 j), S.2.2)) by simp only [sp_type, cg_in_some hp1 hp2 (by omega : (255 : Nat) < 2 ^ 31), if_neg b_2]]; exact ⟨rfl, mI_mk (hM.1.of (fun k => ((up2_x (by omega)).trans ((up2_x (by omega)).trans (up2_x (by omega)))))) ⟨up2_s, fun j hj => type_row hM.T hj⟩ (hM.MP.of ((up2_x (by omega)).trans ((up2_x (by omega)).trans (up2_x (by omega)))) (fun k => ((up2_x (by omega)).trans ((up2_x (by omega)).trans (up2_x (by omega)))))) (hM.Im.of (fun k => ((up2_x (by omega)).trans ((up2_x (by omega)).trans (up2_x (by omega))))) (fun k => ((up2_x (by omega)).trans ((up2_x (by omega)).trans (up2_x (by omega)))))) (hM.Sn.of ((up2_x (by omega)).trans ((up2_x (by omega)).trans (up2_x (by omega)))) (fun k => ((up2_x (by omega)).trans ((up2_x (by omega)).trans (up2_x (by omega)))))), (fun a k z => ((up2_x (by omega)).trans ((up2_x (by omega)).trans (up2_x (by omega)))))⟩)
    · refine o_bipush (v := (-3)) dX9_type_27 (by decide) ?_
      exact o_iret dX9_type_29 rfl (by rw [show sp_type S (nI p) = (-3, S) by simp only [sp_type, cg_in_some hp1 hp2 (by omega : (255 : Nat) < 2 ^ 31), if_pos b_2]]; exact ⟨rfl, hM.fr ((frM.refl _).trans (frM.scr (by unfold mn; omega))), ((frM.refl _).trans (frM.scr (by unfold mn; omega))).lo⟩)
  · refine o_ifN_ne (tgt := 18) dX9_type_13 (by decide) (by omega) (fun b_3 => absurd b_3 (by omega)) (fun b_3 => ?_)
    refine o_iconst (v := (-1)) dX9_type_16 (by decide) ?_
    exact o_iret dX9_type_17 rfl (by rw [show sp_type S x = (-1, S) by simp only [sp_type, cg_in_none (by omega) (by omega : (255 : Nat) < 2 ^ 31) hno]]; exact ⟨rfl, hM.fr ((frM.refl _).trans (frM.scr (by unfold mn; omega))), ((frM.refl _).trans (frM.scr (by unfold mn; omega))).lo⟩)

set_option maxHeartbeats 4000000 in
set_option maxRecDepth 100000 in
theorem m_clear {I : sm_I} {S : ST} (hM : MI I S) (hS : okS S) : E0 6 mX9_clear [.ref 106] I (fun r I' => r = some (.int (sp_clear S).1) ∧ MI I' (sp_clear S).2 ∧ loC I I') := by
  have hK := hM.1
  have hok := hS.1
  have hn := hok.1
  refine E0.of (by decide) (by simp [Value.category]) (Nat.le_of_ble_eq_true rfl) (fun ζ => ?_)
  refine o_aload_n dX9_clear_0 rfl rfl ?_
  refine o_iconst (v := nI 0) dX9_clear_1 (by decide) ?_
  refine o_putI dX9_clear_2 flX9_39 sh_106 rfl ?_
  refine o_aload_n dX9_clear_5 rfl rfl ?_
  refine o_getI (v := nI S.2.1.1) dX9_clear_6 fgX9_47 sh_106 rfl ((up2_x (by omega)).trans hM.T.1) ?_
  refine o_istore_n dX9_clear_9 rfl (by decide) ?_
  refine o_aload_n dX9_clear_10 rfl rfl ?_
  refine o_iconst (v := nI 0) dX9_clear_11 (by decide) ?_
  refine o_putI dX9_clear_12 flX9_47 sh_106 rfl ?_
  refine o_iload_n dX9_clear_15 rfl rfl ?_
  exact o_iret dX9_clear_16 rfl ⟨rfl, mI_mk (hM.1.of (fun k => ((up2_x (by omega)).trans (up2_x (by omega))))) ⟨up2_s, fun j hj => absurd hj (Nat.not_lt_zero j)⟩ (hM.MP.of ((up2_x (by omega)).trans (up2_x (by omega))) (fun k => ((up2_x (by omega)).trans (up2_x (by omega))))) (hM.Im.of (fun k => ((up2_x (by omega)).trans (up2_x (by omega)))) (fun k => ((up2_x (by omega)).trans (up2_x (by omega))))) (hM.Sn.of ((up2_x (by omega)).trans (up2_x (by omega))) (fun k => ((up2_x (by omega)).trans (up2_x (by omega))))), (fun a k z => ((up2_x (by omega)).trans (up2_x (by omega))))⟩

set_option maxHeartbeats 4000000 in
set_option maxRecDepth 100000 in
theorem m_forget {I : sm_I} {S : ST} (hM : MI I S) (hS : okS S) : E0 6 mX9_forget [.ref 106] I (fun r I' => r = some (.int (sp_forget S).1) ∧ MI I' (sp_forget S).2 ∧ loC I I') := by
  have hK := hM.1
  have hok := hS.1
  have hn := hok.1
  refine E0.of (by decide) (by simp [Value.category]) (Nat.le_of_ble_eq_true rfl) (fun ζ => ?_)
  refine o_aload_n dX9_forget_0 rfl rfl ?_
  refine o_iconst (v := nI 0) dX9_forget_1 (by decide) ?_
  refine o_putI dX9_forget_2 flX9_39 sh_106 rfl ?_
  refine o_aload_n dX9_forget_5 rfl rfl ?_
  refine o_getI (v := nI S.2.2.2.2.1) dX9_forget_6 fgX9_165 sh_106 rfl ((up2_x (by omega)).trans hM.Sn.1) ?_
  refine o_istore_n dX9_forget_9 rfl (by decide) ?_
  refine o_aload_n dX9_forget_10 rfl rfl ?_
  refine o_iconst (v := nI 0) dX9_forget_11 (by decide) ?_
  refine o_putI dX9_forget_12 flX9_165 sh_106 rfl ?_
  refine o_iload_n dX9_forget_15 rfl rfl ?_
  exact o_iret dX9_forget_16 rfl ⟨rfl, mI_mk (hM.1.of (fun k => ((up2_x (by omega)).trans (up2_x (by omega))))) (hM.T.of ((up2_x (by omega)).trans (up2_x (by omega))) (fun k => ((up2_x (by omega)).trans (up2_x (by omega))))) (hM.MP.of ((up2_x (by omega)).trans (up2_x (by omega))) (fun k => ((up2_x (by omega)).trans (up2_x (by omega))))) (hM.Im.of (fun k => ((up2_x (by omega)).trans (up2_x (by omega)))) (fun k => ((up2_x (by omega)).trans (up2_x (by omega))))) ⟨up2_s, fun j hj => absurd hj (Nat.not_lt_zero j)⟩, (fun a k z => ((up2_x (by omega)).trans (up2_x (by omega))))⟩

theorem sees_row {I : sm_I} {N : Nat × (Nat → Nat) × (Nat → Nat)} (h : MSn I N) {a b j : Nat} {v w : Int32} (hj : j < N.1 + 1) : up2 (up2 (up2 (up2 I 106 0 v) 112 (2 * N.1) (nI a)) 112 (2 * N.1 + 1) (nI b)) 106 8 w 112 (2 * j) = nI (if j = N.1 then a else N.2.1 j) ∧ up2 (up2 (up2 (up2 I 106 0 v) 112 (2 * N.1) (nI a)) 112 (2 * N.1 + 1) (nI b)) 106 8 w 112 (2 * j + 1) = nI (if j = N.1 then b else N.2.2 j) := by
  by_cases hx : j = N.1
  · subst hx
    rw [if_pos rfl, if_pos rfl]
    exact ⟨(up2_x (by omega)).trans ((up2_x (by omega)).trans up2_s), (up2_x (by omega)).trans up2_s⟩
  · rw [if_neg hx, if_neg hx]
    exact ⟨(up2_x (by omega)).trans ((up2_x (by omega)).trans ((up2_x (by omega)).trans ((up2_x (by omega)).trans (h.2 j (by omega)).1))), (up2_x (by omega)).trans ((up2_x (by omega)).trans ((up2_x (by omega)).trans ((up2_x (by omega)).trans (h.2 j (by omega)).2)))⟩

set_option maxHeartbeats 4000000 in
set_option maxRecDepth 100000 in
theorem m_sees {I : sm_I} {S : ST} (hM : MI I S) (hS : okS S) (n y : Int32) : E0 6 mX9_sees [.ref 106, .int n, .int y] I (fun r I' => r = some (.int (sp_sees S n y).1) ∧ MI I' (sp_sees S n y).2 ∧ loC I I') := by
  have hK := hM.1
  have hok := hS.1
  have hn := hok.1
  have h6 := hS.2.2.2.2.1
  refine E0.of (by decide) (by simp [Value.category]) (Nat.le_of_ble_eq_true rfl) (fun ζ => ?_)
  refine o_aload_n dX9_sees_0 rfl rfl ?_
  refine o_iconst (v := nI 0) dX9_sees_1 (by decide) ?_
  refine o_putI dX9_sees_2 flX9_39 sh_106 rfl ?_
  refine o_iload_n dX9_sees_5 rfl rfl ?_
  refine o_iconst (v := nI 0) dX9_sees_6 (by decide) ?_
  refine o_ldc (v := nI 99999) dX9_sees_7 kcX9_164 ?_
  refine o_callS (as := [.int n, .int (nI 0), .int (nI 99999)]) (st := []) dX9_sees_9 (c_in _ _ _ _) rfl meX9_in ssX9_in mlX9_43 (by omega) (by decide) (Nat.le_of_ble_eq_true rfl) ?_
  rintro _ _ ⟨rfl, ⟨haa, hab, rfl⟩ | ⟨hno, rfl⟩⟩
  · obtain ⟨a, ha1, ha2, rfl⟩ := in_nat (by omega) (by omega) haa hab
    refine o_ifN_eq (tgt := 25) dX9_sees_12 (by decide) (by omega) (fun b_4 => absurd b_4 (by omega)) (fun b_4 => ?_)
    refine o_iload_n dX9_sees_15 rfl rfl ?_
    refine o_iconst (v := nI 0) dX9_sees_16 (by decide) ?_
    refine o_bipush (v := nI 40) dX9_sees_17 (by decide) ?_
    refine o_callS (as := [.int y, .int (nI 0), .int (nI 40)]) (st := []) dX9_sees_19 (c_in _ _ _ _) rfl meX9_in ssX9_in mlX9_43 (by omega) (by decide) (Nat.le_of_ble_eq_true rfl) ?_
    rintro _ _ ⟨rfl, ⟨hba, hbb, rfl⟩ | ⟨hno2, rfl⟩⟩
    · obtain ⟨b, hb1, hb2, rfl⟩ := in_nat (by omega) (by omega) hba hbb
      refine o_ifN_ne (tgt := 27) dX9_sees_22 (by decide) (by omega) (fun b_5 => ?_) (fun b_5 => absurd b_5 (by omega))
      refine o_aload_n dX9_sees_27 rfl rfl ?_
      refine o_getI (v := nI S.2.2.2.2.1) dX9_sees_28 fgX9_165 sh_106 rfl ((up2_x (by omega)).trans hM.Sn.1) ?_
      refine o_bipush (v := nI 6) dX9_sees_31 (by decide) ?_
      refine o_icmpN_ne (tgt := 39) dX9_sees_33 (by decide) (by omega) (by omega) (fun b_6 => ?_) (fun b_6 => ?_)
      · refine o_aload_n dX9_sees_39 rfl rfl ?_
        refine o_getR (b := 112) dX9_sees_40 fgX9_26 sh_106 rfl rfl ?_
        refine o_iconst (v := nI 2) dX9_sees_43 (by decide) ?_
        refine o_aload_n dX9_sees_44 rfl rfl ?_
        refine o_getI (v := nI S.2.2.2.2.1) dX9_sees_45 fgX9_165 sh_106 rfl ((up2_x (by omega)).trans hM.Sn.1) ?_
        refine o_imulN dX9_sees_48 ?_
        refine o_iload_n dX9_sees_49 rfl rfl ?_
        refine o_iastN dX9_sees_50 sh_112 (by decide) (by omega) ?_
        refine o_aload_n dX9_sees_51 rfl rfl ?_
        refine o_getR (b := 112) dX9_sees_52 fgX9_26 sh_106 rfl rfl ?_
        refine o_iconst (v := nI 2) dX9_sees_55 (by decide) ?_
        refine o_aload_n dX9_sees_56 rfl rfl ?_
        refine o_getI (v := nI S.2.2.2.2.1) dX9_sees_57 fgX9_165 sh_106 rfl ((up2_x (by omega)).trans ((up2_x (by omega)).trans hM.Sn.1)) ?_
        refine o_imulN dX9_sees_60 ?_
        refine o_iconst (v := nI 1) dX9_sees_61 (by decide) ?_
        refine o_iaddN dX9_sees_62 ?_
        refine o_iload_n dX9_sees_63 rfl rfl ?_
        refine o_iastN dX9_sees_64 sh_112 (by decide) (by omega) ?_
        refine o_aload_n dX9_sees_65 rfl rfl ?_
        refine o_dup dX9_sees_66 rfl ?_
        refine o_getI (v := nI S.2.2.2.2.1) dX9_sees_67 fgX9_165 sh_106 rfl ((up2_x (by omega)).trans ((up2_x (by omega)).trans ((up2_x (by omega)).trans hM.Sn.1))) ?_
        refine o_iconst (v := nI 1) dX9_sees_70 (by decide) ?_
        refine o_iaddN dX9_sees_71 ?_
        refine o_putI dX9_sees_72 flX9_165 sh_106 rfl ?_
        refine o_aload_n dX9_sees_75 rfl rfl ?_
        refine o_getI (v := nI (S.2.2.2.2.1 + 1)) dX9_sees_76 fgX9_165 sh_106 rfl up2_s ?_
        exact o_iret dX9_sees_79 rfl (by rw [show sp_sees S (nI a) (nI b) = (nI (S.2.2.2.2.1 + 1), (S.1, S.2.1, S.2.2.1, S.2.2.2.1, (S.2.2.2.2.1 + 1, (fun j => if j = S.2.2.2.2.1 then a else S.2.2.2.2.2.1 j), (fun j => if j = S.2.2.2.2.1 then b else S.2.2.2.2.2.2 j)))) by simp only [sp_sees, cg_in_some ha1 ha2 (by omega : (99999 : Nat) < 2 ^ 31), cg_in_some hb1 hb2 (by omega : (40 : Nat) < 2 ^ 31), if_neg b_6]]; exact ⟨rfl, mI_mk (hM.1.of (fun k => ((up2_x (by omega)).trans ((up2_x (by omega)).trans ((up2_x (by omega)).trans (up2_x (by omega))))))) (hM.T.of ((up2_x (by omega)).trans ((up2_x (by omega)).trans ((up2_x (by omega)).trans (up2_x (by omega))))) (fun k => ((up2_x (by omega)).trans ((up2_x (by omega)).trans ((up2_x (by omega)).trans (up2_x (by omega))))))) (hM.MP.of ((up2_x (by omega)).trans ((up2_x (by omega)).trans ((up2_x (by omega)).trans (up2_x (by omega))))) (fun k => ((up2_x (by omega)).trans ((up2_x (by omega)).trans ((up2_x (by omega)).trans (up2_x (by omega))))))) (hM.Im.of (fun k => ((up2_x (by omega)).trans ((up2_x (by omega)).trans ((up2_x (by omega)).trans (up2_x (by omega)))))) (fun k => ((up2_x (by omega)).trans ((up2_x (by omega)).trans ((up2_x (by omega)).trans (up2_x (by omega))))))) ⟨up2_s, fun j hj => sees_row hM.Sn hj⟩, (fun a k z => ((up2_x (by omega)).trans ((up2_x (by omega)).trans ((up2_x (by omega)).trans (up2_x (by omega))))))⟩)
      · refine o_bipush (v := (-3)) dX9_sees_36 (by decide) ?_
        exact o_iret dX9_sees_38 rfl (by rw [show sp_sees S (nI a) (nI b) = (-3, S) by simp only [sp_sees, cg_in_some ha1 ha2 (by omega : (99999 : Nat) < 2 ^ 31), cg_in_some hb1 hb2 (by omega : (40 : Nat) < 2 ^ 31), if_pos b_6]]; exact ⟨rfl, hM.fr ((frM.refl _).trans (frM.scr (by unfold mn; omega))), ((frM.refl _).trans (frM.scr (by unfold mn; omega))).lo⟩)
    · refine o_ifN_ne (tgt := 27) dX9_sees_22 (by decide) (by omega) (fun b_7 => absurd b_7 (by omega)) (fun b_7 => ?_)
      refine o_iconst (v := (-1)) dX9_sees_25 (by decide) ?_
      exact o_iret dX9_sees_26 rfl (by rw [show sp_sees S (nI a) y = (-1, S) by simp only [sp_sees, cg_in_some ha1 ha2 (by omega : (99999 : Nat) < 2 ^ 31), cg_in_none (by omega) (by omega : (40 : Nat) < 2 ^ 31) hno2]]; exact ⟨rfl, hM.fr ((frM.refl _).trans (frM.scr (by unfold mn; omega))), ((frM.refl _).trans (frM.scr (by unfold mn; omega))).lo⟩)
  · refine o_ifN_eq (tgt := 25) dX9_sees_12 (by decide) (by omega) (fun b_8 => ?_) (fun b_8 => absurd b_8 (by omega))
    refine o_iconst (v := (-1)) dX9_sees_25 (by decide) ?_
    exact o_iret dX9_sees_26 rfl (by rw [show sp_sees S n y = (-1, S) by simp only [sp_sees, cg_in_none (by omega) (by omega : (99999 : Nat) < 2 ^ 31) hno]]; exact ⟨rfl, hM.fr ((frM.refl _).trans (frM.scr (by unfold mn; omega))), ((frM.refl _).trans (frM.scr (by unfold mn; omega))).lo⟩)

theorem lp_keep {ζ : sm_Z} {d : Nat} {I0 : sm_I} {Q : Option Value → sm_I → Prop} {i : Nat} (hi : i ≤ 1) (hx : ∀ I' : sm_I, (∀ q, q < 25 → I' 110 (25 * i + q) = I0 107 q) → (∀ q, ¬ (25 * i ≤ q ∧ q < 25 * i + 25) → I' 110 q = I0 110 q) → (∀ a k, a ≠ 110 → I' a k = I0 a k) → X0 ζ d mX9_keep 47 [some (.ref 106), some (.int (nI i)), some (.int (nI 25))] [] I' Q) : ∀ (f k : Nat) (I : sm_I), k + f = 25 → (∀ q, q < k → I 110 (25 * i + q) = I0 107 q) → (∀ q, ¬ (25 * i ≤ q ∧ q < 25 * i + k) → I 110 q = I0 110 q) → (∀ a k, a ≠ 110 → I a k = I0 a k) → X0 ζ d mX9_keep 18 [some (.ref 106), some (.int (nI i)), some (.int (nI k))] [] I Q := by
  intro f
  induction f with
  | zero =>
    intro k I hk h1 h2 h3
    have hkk : k = 25 := by omega
    subst hkk
    refine o_iload_n dX9_keep_18 rfl rfl ?_
    refine o_bipush (v := nI 25) dX9_keep_19 (by decide) ?_
    refine o_icmpN_ge (tgt := 47) dX9_keep_21 (by decide) (by omega) (by omega) (fun b_9 => ?_) (fun b_9 => absurd b_9 (by omega))
    exact hx I h1 h2 h3
  | succ f ih =>
    intro k I hk h1 h2 h3
    refine o_iload_n dX9_keep_18 rfl rfl ?_
    refine o_bipush (v := nI 25) dX9_keep_19 (by decide) ?_
    refine o_icmpN_ge (tgt := 47) dX9_keep_21 (by decide) (by omega) (by omega) (fun b_10 => absurd b_10 (by omega)) (fun b_10 => ?_)
    refine o_aload_n dX9_keep_24 rfl rfl ?_
    refine o_getR (b := 110) dX9_keep_25 fgX9_19 sh_106 rfl rfl ?_
    refine o_bipush (v := nI 25) dX9_keep_28 (by decide) ?_
    refine o_iload_n dX9_keep_30 rfl rfl ?_
    refine o_imulN dX9_keep_31 ?_
    refine o_iload_n dX9_keep_32 rfl rfl ?_
    refine o_iaddN dX9_keep_33 ?_
    refine o_aload_n dX9_keep_34 rfl rfl ?_
    refine o_getR (b := 107) dX9_keep_35 fgX9_7 sh_106 rfl rfl ?_
    refine o_iload_n dX9_keep_38 rfl rfl ?_
    refine o_ialdN (v := I 107 k) dX9_keep_39 sh_107 (by decide) (by omega) rfl ?_
    refine o_iastN dX9_keep_40 sh_110 (by decide) (by omega) ?_
    refine o_iincN (w := 1) dX9_keep_41 rfl (by decide) (by decide) ?_
    refine o_goto (tgt := 18) dX9_keep_44 (by decide) ?_
    refine ih (k + 1) _ (by omega) (fun q hq => ?_) (fun q hq => (up2_x (by omega)).trans (h2 q (by omega))) (fun a k z => (up2_x (by omega)).trans (h3 a k z))
    rcases Nat.lt_or_ge q k with z | z
    · exact (up2_x (by omega)).trans (h1 q z)
    · have hqq : q = k := by omega
      subst hqq
      exact up2_s.trans (h3 107 q (by decide))

theorem keep_Im {I I2 : sm_I} {S : ST} (hM : MI I S) (hn : S.1.1 ≤ 4) (hok : ∀ i K, i < 2 → S.2.2.2.1 i = some K → K.1 ≤ 4) {p : Nat} (hp : p ≤ 1) (g1 : ∀ q, q < 25 → I2 110 (25 * p + q) = I 107 q) (g2 : ∀ q, ¬ (25 * p ≤ q ∧ q < 25 * p + 25) → I2 110 q = I 110 q) (g3 : I2 111 p = nI 1) (g4 : ∀ q, q ≠ p → I2 111 q = I 111 q) : MIm I2 (fun j => if j = p then some S.1 else S.2.2.2.1 j) := by
  intro i hi
  by_cases hx : i = p
  · subst hx
    refine ⟨fun q => by simp at q, fun K q => ?_⟩
    simp only [if_pos rfl] at q
    cases q
    exact ⟨g3, hM.1.mv hn (fun q hq => by rw [g1 q hq, Nat.zero_add])⟩
  · refine ⟨fun q => ?_, fun K q => ?_⟩
    · simp only [if_neg hx] at q
      exact (g4 i hx).trans ((hM.Im i hi).1 q)
    · simp only [if_neg hx] at q
      exact ⟨(g4 i hx).trans ((hM.Im i hi).2 K q).1, ((hM.Im i hi).2 K q).2.mv (hok i K hi q) (fun z hz => g2 _ (by omega))⟩

set_option maxHeartbeats 4000000 in
set_option maxRecDepth 100000 in
theorem m_keep {I : sm_I} {S : ST} (hM : MI I S) (hS : okS S) (x : Int32) : E0 6 mX9_keep [.ref 106, .int x] I (fun r I' => r = some (.int (sp_keep S x).1) ∧ MI I' (sp_keep S x).2 ∧ loC I I') := by
  have hK := hM.1
  have hok := hS.1
  have hn := hok.1
  refine E0.of (by decide) (by simp [Value.category]) (Nat.le_of_ble_eq_true rfl) (fun ζ => ?_)
  refine o_aload_n dX9_keep_0 rfl rfl ?_
  refine o_iconst (v := nI 0) dX9_keep_1 (by decide) ?_
  refine o_putI dX9_keep_2 flX9_39 sh_106 rfl ?_
  refine o_iload_n dX9_keep_5 rfl rfl ?_
  refine o_iconst (v := nI 0) dX9_keep_6 (by decide) ?_
  refine o_iconst (v := nI 1) dX9_keep_7 (by decide) ?_
  refine o_callS (as := [.int x, .int (nI 0), .int (nI 1)]) (st := []) dX9_keep_8 (c_in _ _ _ _) rfl meX9_in ssX9_in mlX9_43 (by omega) (by decide) (Nat.le_of_ble_eq_true rfl) ?_
  rintro _ _ ⟨rfl, ⟨hpa, hpb, rfl⟩ | ⟨hno, rfl⟩⟩
  · obtain ⟨p, hp1, hp2, rfl⟩ := in_nat (by omega) (by omega) hpa hpb
    refine o_ifN_ne (tgt := 16) dX9_keep_11 (by decide) (by omega) (fun b_11 => ?_) (fun b_11 => absurd b_11 (by omega))
    refine o_iconst (v := nI 0) dX9_keep_16 (by decide) ?_
    refine o_istore_n dX9_keep_17 rfl (by decide) ?_
    refine lp_keep (I0 := up2 I 106 0 (nI 0)) hp2 (fun I1 r1 r2 r3 => ?_) 25 0 _ (by omega) (fun q hq => by omega) (fun q _ => rfl) (fun _ _ _ => rfl)
    refine o_aload_n dX9_keep_47 rfl rfl ?_
    refine o_getR (b := 111) dX9_keep_48 fgX9_22 sh_106 rfl rfl ?_
    refine o_iload_n dX9_keep_51 rfl rfl ?_
    refine o_iconst (v := nI 1) dX9_keep_52 (by decide) ?_
    refine o_zastN dX9_keep_53 sh_111 (by decide) (by omega) (by decide) ?_
    refine o_aload_n dX9_keep_54 rfl rfl ?_
    refine o_getR (b := 107) dX9_keep_55 fgX9_7 sh_106 rfl rfl ?_
    refine o_bipush (v := nI 24) dX9_keep_58 (by decide) ?_
    refine o_ialdN (v := nI S.1.1) dX9_keep_60 sh_107 (by decide) (by omega) ((up2_x (by omega)).trans ((r3 107 24 (by decide)).trans ((up2_x (by omega)).trans hK.n0))) ?_
    exact o_iret dX9_keep_61 rfl (by rw [show sp_keep S (nI p) = (nI S.1.1, (S.1, S.2.1, S.2.2.1, (fun j => if j = p then some S.1 else S.2.2.2.1 j), S.2.2.2.2)) by simp only [sp_keep, cg_in_some hp1 hp2 (by omega : (1 : Nat) < 2 ^ 31)]]; exact ⟨rfl, mI_mk (hM.1.of (fun k => (up2_x (by omega)).trans ((r3 _ _ (by omega)).trans (up2_x (by omega))))) (hM.T.of ((up2_x (by omega)).trans ((r3 _ _ (by omega)).trans (up2_x (by omega)))) (fun k => (up2_x (by omega)).trans ((r3 _ _ (by omega)).trans (up2_x (by omega))))) (hM.MP.of ((up2_x (by omega)).trans ((r3 _ _ (by omega)).trans (up2_x (by omega)))) (fun k => (up2_x (by omega)).trans ((r3 _ _ (by omega)).trans (up2_x (by omega))))) (keep_Im hM hn (fun i K hi h => (hS.2.2.2.1 i K hi h).1) hp2 (fun q hq => by rw [up2_x (by omega), r1 q hq, up2_x (by omega)]) (fun q hq => by rw [up2_x (by omega), r2 q hq, up2_x (by omega)]) up2_s (fun q hq => by rw [up2_x (by omega), r3 _ _ (by decide), up2_x (by omega)])) (hM.Sn.of ((up2_x (by omega)).trans ((r3 _ _ (by omega)).trans (up2_x (by omega)))) (fun k => (up2_x (by omega)).trans ((r3 _ _ (by omega)).trans (up2_x (by omega))))), fun a k z => (up2_x (by omega)).trans ((r3 _ _ (by omega)).trans (up2_x (by omega)))⟩)
  · refine o_ifN_ne (tgt := 16) dX9_keep_11 (by decide) (by omega) (fun b_12 => absurd b_12 (by omega)) (fun b_12 => ?_)
    refine o_iconst (v := (-1)) dX9_keep_14 (by decide) ?_
    exact o_iret dX9_keep_15 rfl (by rw [show sp_keep S x = (-1, S) by simp only [sp_keep, cg_in_none (by omega) (by omega : (1 : Nat) < 2 ^ 31) hno]]; exact ⟨rfl, hM.fr ((frM.refl _).trans (frM.scr (by unfold mn; omega))), ((frM.refl _).trans (frM.scr (by unfold mn; omega))).lo⟩)

theorem lp_back {ζ : sm_Z} {d : Nat} {I0 : sm_I} {Q : Option Value → sm_I → Prop} {i : Nat} (hi : i ≤ 1) (hx : ∀ I' : sm_I, (∀ q, q < 25 → I' 107 q = I0 110 (25 * i + q)) → (∀ a k, a ≠ 107 → I' a k = I0 a k) → X0 ζ d mX9_back 59 [some (.ref 106), some (.int (nI i)), some (.int (nI 25))] [] I' Q) : ∀ (f k : Nat) (I : sm_I), k + f = 25 → (∀ q, q < k → I 107 q = I0 110 (25 * i + q)) → (∀ a k, a ≠ 107 → I a k = I0 a k) → X0 ζ d mX9_back 30 [some (.ref 106), some (.int (nI i)), some (.int (nI k))] [] I Q := by
  intro f
  induction f with
  | zero =>
    intro k I hk h1 h3
    have hkk : k = 25 := by omega
    subst hkk
    refine o_iload_n dX9_back_30 rfl rfl ?_
    refine o_bipush (v := nI 25) dX9_back_31 (by decide) ?_
    refine o_icmpN_ge (tgt := 59) dX9_back_33 (by decide) (by omega) (by omega) (fun b_13 => ?_) (fun b_13 => absurd b_13 (by omega))
    exact hx I h1 h3
  | succ f ih =>
    intro k I hk h1 h3
    refine o_iload_n dX9_back_30 rfl rfl ?_
    refine o_bipush (v := nI 25) dX9_back_31 (by decide) ?_
    refine o_icmpN_ge (tgt := 59) dX9_back_33 (by decide) (by omega) (by omega) (fun b_14 => absurd b_14 (by omega)) (fun b_14 => ?_)
    refine o_aload_n dX9_back_36 rfl rfl ?_
    refine o_getR (b := 107) dX9_back_37 fgX9_7 sh_106 rfl rfl ?_
    refine o_iload_n dX9_back_40 rfl rfl ?_
    refine o_aload_n dX9_back_41 rfl rfl ?_
    refine o_getR (b := 110) dX9_back_42 fgX9_19 sh_106 rfl rfl ?_
    refine o_bipush (v := nI 25) dX9_back_45 (by decide) ?_
    refine o_iload_n dX9_back_47 rfl rfl ?_
    refine o_imulN dX9_back_48 ?_
    refine o_iload_n dX9_back_49 rfl rfl ?_
    refine o_iaddN dX9_back_50 ?_
    refine o_ialdN (v := I 110 ((25 * i) + k)) dX9_back_51 sh_110 (by decide) (by omega) rfl ?_
    refine o_iastN dX9_back_52 sh_107 (by decide) (by omega) ?_
    refine o_iincN (w := 1) dX9_back_53 rfl (by decide) (by decide) ?_
    refine o_goto (tgt := 30) dX9_back_56 (by decide) ?_
    refine ih (k + 1) _ (by omega) (fun q hq => ?_) (fun a k z => (up2_x (by omega)).trans (h3 a k z))
    rcases Nat.lt_or_ge q k with z | z
    · exact (up2_x (by omega)).trans (h1 q z)
    · have hqq : q = k := by omega
      subst hqq
      exact up2_s.trans (h3 110 _ (by decide))

set_option maxHeartbeats 4000000 in
set_option maxRecDepth 100000 in
theorem m_back {I : sm_I} {S : ST} (hM : MI I S) (hS : okS S) (x : Int32) : E0 6 mX9_back [.ref 106, .int x] I (fun r I' => r = some (.int (sp_back S x).1) ∧ MI I' (sp_back S x).2 ∧ loC I I') := by
  have hK := hM.1
  have hok := hS.1
  have hn := hok.1
  refine E0.of (by decide) (by simp [Value.category]) (Nat.le_of_ble_eq_true rfl) (fun ζ => ?_)
  refine o_aload_n dX9_back_0 rfl rfl ?_
  refine o_iconst (v := nI 0) dX9_back_1 (by decide) ?_
  refine o_putI dX9_back_2 flX9_39 sh_106 rfl ?_
  refine o_iload_n dX9_back_5 rfl rfl ?_
  refine o_iconst (v := nI 0) dX9_back_6 (by decide) ?_
  refine o_iconst (v := nI 1) dX9_back_7 (by decide) ?_
  refine o_callS (as := [.int x, .int (nI 0), .int (nI 1)]) (st := []) dX9_back_8 (c_in _ _ _ _) rfl meX9_in ssX9_in mlX9_43 (by omega) (by decide) (Nat.le_of_ble_eq_true rfl) ?_
  rintro _ _ ⟨rfl, ⟨hpa, hpb, rfl⟩ | ⟨hno, rfl⟩⟩
  · obtain ⟨p, hp1, hp2, rfl⟩ := in_nat (by omega) (by omega) hpa hpb
    refine o_ifN_ne (tgt := 16) dX9_back_11 (by decide) (by omega) (fun b_15 => ?_) (fun b_15 => absurd b_15 (by omega))
    cases him : S.2.2.2.1 p with
    | none =>
      refine o_aload_n dX9_back_16 rfl rfl ?_
      refine o_getR (b := 111) dX9_back_17 fgX9_22 sh_106 rfl rfl ?_
      refine o_iload_n dX9_back_20 rfl rfl ?_
      refine o_zaldN (v := nI 0) dX9_back_21 sh_111 (by decide) (by omega) ((up2_x (by omega)).trans ((hM.Im p (by omega)).1 him)) ?_
      refine o_ifN_ne (tgt := 28) dX9_back_22 (by decide) (by omega) (fun b_16 => absurd b_16 (by omega)) (fun b_16 => ?_)
      refine o_bipush (v := (-2)) dX9_back_25 (by decide) ?_
      exact o_iret dX9_back_27 rfl (by rw [show sp_back S (nI p) = (-2, S) by simp only [sp_back, cg_in_some hp1 hp2 (by omega : (1 : Nat) < 2 ^ 31), him]]; exact ⟨rfl, hM.fr ((frM.refl _).trans (frM.scr (by unfold mn; omega))), ((frM.refl _).trans (frM.scr (by unfold mn; omega))).lo⟩)
    | some K =>
      have hKi := (hM.Im p (by omega)).2 K him
      refine o_aload_n dX9_back_16 rfl rfl ?_
      refine o_getR (b := 111) dX9_back_17 fgX9_22 sh_106 rfl rfl ?_
      refine o_iload_n dX9_back_20 rfl rfl ?_
      refine o_zaldN (v := nI 1) dX9_back_21 sh_111 (by decide) (by omega) ((up2_x (by omega)).trans hKi.1) ?_
      refine o_ifN_ne (tgt := 28) dX9_back_22 (by decide) (by omega) (fun b_17 => ?_) (fun b_17 => absurd b_17 (by omega))
      refine o_iconst (v := nI 0) dX9_back_28 (by decide) ?_
      refine o_istore_n dX9_back_29 rfl (by decide) ?_
      refine lp_back (I0 := up2 I 106 0 (nI 0)) hp2 (fun I1 r1 r3 => ?_) 25 0 _ (by omega) (fun q hq => by omega) (fun _ _ _ => rfl)
      refine o_aload_n dX9_back_59 rfl rfl ?_
      refine o_iconst (v := nI 0) dX9_back_60 (by decide) ?_
      refine o_putI dX9_back_61 flX9_124 sh_106 rfl ?_
      refine o_aload_n dX9_back_64 rfl rfl ?_
      refine o_getR (b := 107) dX9_back_65 fgX9_7 sh_106 rfl rfl ?_
      refine o_bipush (v := nI 24) dX9_back_68 (by decide) ?_
      refine o_ialdN (v := nI K.1) dX9_back_70 sh_107 (by decide) (by omega) ((up2_x (by omega)).trans ((r1 24 (by omega)).trans ((up2_x (by omega)).trans hKi.2.1))) ?_
      exact o_iret dX9_back_71 rfl (by rw [show sp_back S (nI p) = (nI K.1, (K, S.2.1, (0, S.2.2.1.2), S.2.2.2.1, S.2.2.2.2)) by simp only [sp_back, cg_in_some hp1 hp2 (by omega : (1 : Nat) < 2 ^ 31), him]]; exact ⟨rfl, mI_mk (hKi.2.mv (hS.2.2.2.1 p K (by omega) him).1 (fun q hq => by rw [Nat.zero_add, up2_x (by omega), r1 q hq, up2_x (by omega)])) (hM.T.of ((up2_x (by omega)).trans ((r3 _ _ (by omega)).trans (up2_x (by omega)))) (fun k => (up2_x (by omega)).trans ((r3 _ _ (by omega)).trans (up2_x (by omega))))) ⟨up2_s, fun k hk => absurd hk (Nat.not_lt_zero k)⟩ (hM.Im.of (fun k => (up2_x (by omega)).trans ((r3 _ _ (by omega)).trans (up2_x (by omega)))) (fun k => (up2_x (by omega)).trans ((r3 _ _ (by omega)).trans (up2_x (by omega))))) (hM.Sn.of ((up2_x (by omega)).trans ((r3 _ _ (by omega)).trans (up2_x (by omega)))) (fun k => (up2_x (by omega)).trans ((r3 _ _ (by omega)).trans (up2_x (by omega))))), fun a k z => (up2_x (by omega)).trans ((r3 _ _ (by omega)).trans (up2_x (by omega)))⟩)
  · refine o_ifN_ne (tgt := 16) dX9_back_11 (by decide) (by omega) (fun b_18 => absurd b_18 (by omega)) (fun b_18 => ?_)
    refine o_iconst (v := (-1)) dX9_back_14 (by decide) ?_
    exact o_iret dX9_back_15 rfl (by rw [show sp_back S x = (-1, S) by simp only [sp_back, cg_in_none (by omega) (by omega : (1 : Nat) < 2 ^ 31) hno]]; exact ⟨rfl, hM.fr ((frM.refl _).trans (frM.scr (by unfold mn; omega))), ((frM.refl _).trans (frM.scr (by unfold mn; omega))).lo⟩)

theorem lp_sum {ζ : sm_Z} {d : Nat} (hd : 1 ≤ d) {I : sm_I} {Q : Option Value → sm_I → Prop} {K : KT} (hK : MK I 107 0 K) (hn : K.1 ≤ 4) {w : Nat} (hw : w < 6) (hq : Q (some (.int (nI (cg_sum (fun c => K.2 c w) K.1)))) I) : ∀ f c : Nat, c + f = K.1 → X0 ζ d mX9_sum 4 [some (.ref 106), some (.int (nI w)), some (.int (nI (cg_sum (fun c => K.2 c w) c))), some (.int (nI c))] [] I Q := by
  intro f
  induction f with
  | zero =>
    intro c hc
    have hcc : c = K.1 := by omega
    subst hcc
    refine o_iload_n dX9_sum_4 rfl rfl ?_
    refine o_aload_n dX9_sum_5 rfl rfl ?_
    refine o_getR (b := 107) dX9_sum_6 fgX9_7 sh_106 rfl rfl ?_
    refine o_bipush (v := nI 24) dX9_sum_9 (by decide) ?_
    refine o_ialdN (v := nI K.1) dX9_sum_11 sh_107 (by decide) (by omega) hK.n0 ?_
    refine o_icmpN_ge (tgt := 30) dX9_sum_12 (by decide) (by omega) (by omega) (fun b_19 => ?_) (fun b_19 => absurd b_19 (by omega))
    refine o_iload_n dX9_sum_30 rfl rfl ?_
    exact o_iret dX9_sum_31 rfl hq
  | succ f ih =>
    intro c hc
    refine o_iload_n dX9_sum_4 rfl rfl ?_
    refine o_aload_n dX9_sum_5 rfl rfl ?_
    refine o_getR (b := 107) dX9_sum_6 fgX9_7 sh_106 rfl rfl ?_
    refine o_bipush (v := nI 24) dX9_sum_9 (by decide) ?_
    refine o_ialdN (v := nI K.1) dX9_sum_11 sh_107 (by decide) (by omega) hK.n0 ?_
    refine o_icmpN_ge (tgt := 30) dX9_sum_12 (by decide) (by omega) (by omega) (fun b_20 => absurd b_20 (by omega)) (fun b_20 => ?_)
    refine o_iload_n dX9_sum_15 rfl rfl ?_
    refine o_aload_n dX9_sum_16 rfl rfl ?_
    refine o_iload_n dX9_sum_17 rfl rfl ?_
    refine o_iload_n dX9_sum_18 rfl rfl ?_
    refine o_callV (as := [.int (nI c), .int (nI w)]) (st := [.int (nI (cg_sum (fun c => K.2 c w) c))]) dX9_sum_19 (c_ofK hK hn (show c < K.1 by omega) hw) rfl meX9_of imX9_of seX9_of mlX9_103 sh_106 rfl rfl (by omega) (by decide) (Nat.le_of_ble_eq_true rfl) ?_
    rintro _ _ ⟨rfl, rfl⟩
    refine o_iaddN dX9_sum_22 ?_
    refine o_istore_n dX9_sum_23 rfl (by decide) ?_
    refine o_iincN (w := 1) dX9_sum_24 rfl (by decide) (by decide) ?_
    refine o_goto (tgt := 4) dX9_sum_27 (by decide) ?_
    exact ih (c + 1) (by omega)
theorem c_sum {I : sm_I} {K : KT} (hK : MK I 107 0 K) (hn : K.1 ≤ 4) {w : Nat} (hw : w < 6) : E0 1 mX9_sum [.ref 106, .int (nI w)] I (fun r I' => I' = I ∧ r = some (.int (nI (cg_sum (fun c => K.2 c w) K.1)))) := by
  refine E0.of (by decide) (by simp [Value.category]) (Nat.le_of_ble_eq_true rfl) (fun ζ => ?_)
  refine o_iconst (v := nI 0) dX9_sum_0 (by decide) ?_
  refine o_istore_n dX9_sum_1 rfl (by decide) ?_
  refine o_iconst (v := nI 0) dX9_sum_2 (by decide) ?_
  refine o_istore_n dX9_sum_3 rfl (by decide) ?_
  exact lp_sum (by omega) hK hn hw ⟨rfl, rfl⟩ K.1 0 (by omega)

theorem sw_out {x : Int32} {n : Nat} {hi : Int} (h : x < 0 ∨ nI (n + 1) ≤ x) (hn : n + 1 < 2 ^ 31 := by decide) (he : hi = (n : Int) := by decide) : x.toInt < 0 ∨ hi < x.toInt := by
  rcases h with h | h
  · have := Int32.lt_iff_toInt_lt.mp h
    rw [Int32.toInt_zero] at this
    exact Or.inl this
  · have := Int32.le_iff_toInt_le.mp h
    rw [nI_toInt hn] at this
    right
    omega

set_option maxHeartbeats 4000000 in
set_option maxRecDepth 100000 in
theorem m_count {I : sm_I} {S : ST} (hM : MI I S) (hS : okS S) (x : Int32) : E0 6 mX9_count [.ref 106, .int x] I (fun r I' => r = some (.int (sp_count S x)) ∧ frM I I') := by
  have hK := hM.1
  have hok := hS.1
  have hn := hok.1
  refine E0.of (by decide) (by simp [Value.category]) (Nat.le_of_ble_eq_true rfl) (fun ζ => ?_)
  rcases cg_ix_cases 6 (by decide) x with ⟨j, hj, rfl, hix⟩ | ⟨hix, hout⟩
  · rcases (show j = 0 ∨ j = 1 ∨ j = 2 ∨ j = 3 ∨ j = 4 ∨ j = 5 by omega) with rfl | rfl | rfl | rfl | rfl | rfl
    · refine o_aload_n dX9_count_0 rfl rfl ?_
      refine o_iconst (v := nI 0) dX9_count_1 (by decide) ?_
      refine o_putI dX9_count_2 flX9_39 sh_106 rfl ?_
      refine o_iload_n dX9_count_5 rfl rfl ?_
      refine o_tableIn (off := 38) (tgt := 44) dX9_count_6 (by decide) (by decide) (by decide) (by decide) ?_
      refine o_aload_n dX9_count_44 rfl rfl ?_
      refine o_getR (b := 107) dX9_count_45 fgX9_7 sh_106 rfl rfl ?_
      refine o_bipush (v := nI 24) dX9_count_48 (by decide) ?_
      refine o_ialdN (v := nI S.1.1) dX9_count_50 sh_107 (by decide) (by omega) ((up2_x (by omega)).trans hK.n0) ?_
      exact o_iret dX9_count_51 rfl ⟨by unfold sp_count; rw [hix]; rfl, ((frM.refl _).trans (frM.scr (by unfold mn; omega)))⟩
    · refine o_aload_n dX9_count_0 rfl rfl ?_
      refine o_iconst (v := nI 0) dX9_count_1 (by decide) ?_
      refine o_putI dX9_count_2 flX9_39 sh_106 rfl ?_
      refine o_iload_n dX9_count_5 rfl rfl ?_
      refine o_tableIn (off := 46) (tgt := 52) dX9_count_6 (by decide) (by decide) (by decide) (by decide) ?_
      refine o_aload_n dX9_count_52 rfl rfl ?_
      refine o_iconst (v := nI 4) dX9_count_53 (by decide) ?_
      refine o_callV (as := [.int (nI 4)]) (st := []) dX9_count_54 (c_sum (hK.frM ((frM.refl _).trans (frM.scr (by unfold mn; omega)))) hn (by decide)) rfl meX9_sum imX9_sum seX9_sum mlX9_177 sh_106 rfl rfl (by omega) (by decide) (Nat.le_of_ble_eq_true rfl) ?_
      rintro _ _ ⟨rfl, rfl⟩
      exact o_iret dX9_count_57 rfl ⟨by unfold sp_count; rw [hix]; rfl, ((frM.refl _).trans (frM.scr (by unfold mn; omega)))⟩
    · refine o_aload_n dX9_count_0 rfl rfl ?_
      refine o_iconst (v := nI 0) dX9_count_1 (by decide) ?_
      refine o_putI dX9_count_2 flX9_39 sh_106 rfl ?_
      refine o_iload_n dX9_count_5 rfl rfl ?_
      refine o_tableIn (off := 52) (tgt := 58) dX9_count_6 (by decide) (by decide) (by decide) (by decide) ?_
      refine o_aload_n dX9_count_58 rfl rfl ?_
      refine o_iconst (v := nI 5) dX9_count_59 (by decide) ?_
      refine o_callV (as := [.int (nI 5)]) (st := []) dX9_count_60 (c_sum (hK.frM ((frM.refl _).trans (frM.scr (by unfold mn; omega)))) hn (by decide)) rfl meX9_sum imX9_sum seX9_sum mlX9_177 sh_106 rfl rfl (by omega) (by decide) (Nat.le_of_ble_eq_true rfl) ?_
      rintro _ _ ⟨rfl, rfl⟩
      exact o_iret dX9_count_63 rfl ⟨by unfold sp_count; rw [hix]; rfl, ((frM.refl _).trans (frM.scr (by unfold mn; omega)))⟩
    · refine o_aload_n dX9_count_0 rfl rfl ?_
      refine o_iconst (v := nI 0) dX9_count_1 (by decide) ?_
      refine o_putI dX9_count_2 flX9_39 sh_106 rfl ?_
      refine o_iload_n dX9_count_5 rfl rfl ?_
      refine o_tableIn (off := 58) (tgt := 64) dX9_count_6 (by decide) (by decide) (by decide) (by decide) ?_
      refine o_aload_n dX9_count_64 rfl rfl ?_
      refine o_getI (v := nI S.2.2.2.2.1) dX9_count_65 fgX9_165 sh_106 rfl ((up2_x (by omega)).trans hM.Sn.1) ?_
      exact o_iret dX9_count_68 rfl ⟨by unfold sp_count; rw [hix]; rfl, ((frM.refl _).trans (frM.scr (by unfold mn; omega)))⟩
    · refine o_aload_n dX9_count_0 rfl rfl ?_
      refine o_iconst (v := nI 0) dX9_count_1 (by decide) ?_
      refine o_putI dX9_count_2 flX9_39 sh_106 rfl ?_
      refine o_iload_n dX9_count_5 rfl rfl ?_
      refine o_tableIn (off := 63) (tgt := 69) dX9_count_6 (by decide) (by decide) (by decide) (by decide) ?_
      refine o_aload_n dX9_count_69 rfl rfl ?_
      refine o_getI (v := nI S.2.1.1) dX9_count_70 fgX9_47 sh_106 rfl ((up2_x (by omega)).trans hM.T.1) ?_
      exact o_iret dX9_count_73 rfl ⟨by unfold sp_count; rw [hix]; rfl, ((frM.refl _).trans (frM.scr (by unfold mn; omega)))⟩
    · refine o_aload_n dX9_count_0 rfl rfl ?_
      refine o_iconst (v := nI 0) dX9_count_1 (by decide) ?_
      refine o_putI dX9_count_2 flX9_39 sh_106 rfl ?_
      refine o_iload_n dX9_count_5 rfl rfl ?_
      refine o_tableIn (off := 68) (tgt := 74) dX9_count_6 (by decide) (by decide) (by decide) (by decide) ?_
      refine o_aload_n dX9_count_74 rfl rfl ?_
      refine o_getI (v := nI S.2.2.1.1) dX9_count_75 fgX9_124 sh_106 rfl ((up2_x (by omega)).trans hM.MP.1) ?_
      exact o_iret dX9_count_78 rfl ⟨by unfold sp_count; rw [hix]; rfl, ((frM.refl _).trans (frM.scr (by unfold mn; omega)))⟩
  · refine o_aload_n dX9_count_0 rfl rfl ?_
    refine o_iconst (v := nI 0) dX9_count_1 (by decide) ?_
    refine o_putI dX9_count_2 flX9_39 sh_106 rfl ?_
    refine o_iload_n dX9_count_5 rfl rfl ?_
    refine o_tableOut (tgt := 79) dX9_count_6 (sw_out hout) (by decide) ?_
    refine o_iconst (v := (-1)) dX9_count_79 (by decide) ?_
    exact o_iret dX9_count_80 rfl ⟨by unfold sp_count; rw [hix], ((frM.refl _).trans (frM.scr (by unfold mn; omega)))⟩
end
section
theorem i_vc : Claimed_1_1 ∧ Claimed_1_2 := sorry
end
