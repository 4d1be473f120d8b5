section
-- ===== PART A: goes FIRST, ahead of the names: the tables' words, and 'selects' of the private methods out of them =====
/-- a private method of a class that the tables say can be made, by its rows of tables_1 -/
def lw_okq (q : MethodName × Nat) : Prop := (q.1.cls ≠ "java/lang/invoke/MethodHandle" ∧ q.1.cls ≠ "java/lang/invoke/VarHandle") ∧ Cond.instantiable q.1.cls q.2 ∈ tables_1 ∧ Cond.privateMethod q.1 ∈ tables_1 ∧ Cond.instanceMethod q.1 ∈ tables_1
theorem lw_p0 : lw_okq (⟨"CaskGauge$Text", "goesOn", "(I)Z"⟩, 5) := ⟨⟨by decide +kernel, by decide +kernel⟩, List.mem_of_getElem? (i := 26) (by decide +kernel), List.mem_of_getElem? (i := 280) (by decide +kernel), List.mem_of_getElem? (i := 281) (by decide +kernel)⟩
theorem lw_p1 : lw_okq (⟨"CaskGauge$Text", "putKind", "(II)V"⟩, 5) := ⟨⟨by decide +kernel, by decide +kernel⟩, List.mem_of_getElem? (i := 26) (by decide +kernel), List.mem_of_getElem? (i := 290) (by decide +kernel), List.mem_of_getElem? (i := 291) (by decide +kernel)⟩
theorem lw_p2 : lw_okq (⟨"CaskGauge$Text", "kindOfWord", "(II)I"⟩, 5) := ⟨⟨by decide +kernel, by decide +kernel⟩, List.mem_of_getElem? (i := 26) (by decide +kernel), List.mem_of_getElem? (i := 294) (by decide +kernel), List.mem_of_getElem? (i := 295) (by decide +kernel)⟩
theorem lw_p3 : lw_okq (⟨"CaskGauge$Text", "isWord", "(Ljava/lang/String;II)Z"⟩, 5) := ⟨⟨by decide +kernel, by decide +kernel⟩, List.mem_of_getElem? (i := 26) (by decide +kernel), List.mem_of_getElem? (i := 299) (by decide +kernel), List.mem_of_getElem? (i := 300) (by decide +kernel)⟩
theorem lw_p4 : lw_okq (⟨"CaskGauge$Text", "kindOfNumber", "(II)I"⟩, 5) := ⟨⟨by decide +kernel, by decide +kernel⟩, List.mem_of_getElem? (i := 26) (by decide +kernel), List.mem_of_getElem? (i := 352) (by decide +kernel), List.mem_of_getElem? (i := 353) (by decide +kernel)⟩
theorem lw_p5 : lw_okq (⟨"CaskGauge$Text", "valueOf", "(II)I"⟩, 5) := ⟨⟨by decide +kernel, by decide +kernel⟩, List.mem_of_getElem? (i := 26) (by decide +kernel), List.mem_of_getElem? (i := 356) (by decide +kernel), List.mem_of_getElem? (i := 357) (by decide +kernel)⟩
theorem lw_p6 : lw_okq (⟨"CaskGauge$Reader", "readItem", "()Z"⟩, 4) := ⟨⟨by decide +kernel, by decide +kernel⟩, List.mem_of_getElem? (i := 53) (by decide +kernel), List.mem_of_getElem? (i := 364) (by decide +kernel), List.mem_of_getElem? (i := 365) (by decide +kernel)⟩
theorem lw_p7 : lw_okq (⟨"CaskGauge$Reader", "readCask", "()Z"⟩, 4) := ⟨⟨by decide +kernel, by decide +kernel⟩, List.mem_of_getElem? (i := 53) (by decide +kernel), List.mem_of_getElem? (i := 368) (by decide +kernel), List.mem_of_getElem? (i := 369) (by decide +kernel)⟩
theorem lw_p8 : lw_okq (⟨"CaskGauge$Reader", "readNumber", "(II)Z"⟩, 4) := ⟨⟨by decide +kernel, by decide +kernel⟩, List.mem_of_getElem? (i := 53) (by decide +kernel), List.mem_of_getElem? (i := 372) (by decide +kernel), List.mem_of_getElem? (i := 373) (by decide +kernel)⟩
theorem lw_p9 : lw_okq (⟨"CaskGauge$Reader", "step", "()V"⟩, 4) := ⟨⟨by decide +kernel, by decide +kernel⟩, List.mem_of_getElem? (i := 53) (by decide +kernel), List.mem_of_getElem? (i := 376) (by decide +kernel), List.mem_of_getElem? (i := 377) (by decide +kernel)⟩
theorem lw_p10 : lw_okq (⟨"CaskGauge$Reader", "readItemEnd", "()Z"⟩, 4) := ⟨⟨by decide +kernel, by decide +kernel⟩, List.mem_of_getElem? (i := 53) (by decide +kernel), List.mem_of_getElem? (i := 380) (by decide +kernel), List.mem_of_getElem? (i := 381) (by decide +kernel)⟩
theorem lw_p11 : lw_okq (⟨"CaskGauge$Reader", "readStands", "()Z"⟩, 4) := ⟨⟨by decide +kernel, by decide +kernel⟩, List.mem_of_getElem? (i := 53) (by decide +kernel), List.mem_of_getElem? (i := 392) (by decide +kernel), List.mem_of_getElem? (i := 393) (by decide +kernel)⟩
theorem lw_p12 : lw_okq (⟨"CaskGauge", "roomIn", "(I)I"⟩, 11) := ⟨⟨by decide +kernel, by decide +kernel⟩, List.mem_of_getElem? (i := 18) (by decide +kernel), List.mem_of_getElem? (i := 426) (by decide +kernel), List.mem_of_getElem? (i := 427) (by decide +kernel)⟩
theorem lw_p13 : lw_okq (⟨"CaskGauge", "levelsOf", "(I)LCaskGauge$Levels;"⟩, 11) := ⟨⟨by decide +kernel, by decide +kernel⟩, List.mem_of_getElem? (i := 18) (by decide +kernel), List.mem_of_getElem? (i := 430) (by decide +kernel), List.mem_of_getElem? (i := 431) (by decide +kernel)⟩
theorem lw_p14 : lw_okq (⟨"CaskGauge", "lyingLevelsOf", "(I)LCaskGauge$Levels;"⟩, 11) := ⟨⟨by decide +kernel, by decide +kernel⟩, List.mem_of_getElem? (i := 18) (by decide +kernel), List.mem_of_getElem? (i := 434) (by decide +kernel), List.mem_of_getElem? (i := 435) (by decide +kernel)⟩
theorem lw_p15 : lw_okq (⟨"CaskGauge$Levels", "addAhead", "(II)V"⟩, 6) := ⟨⟨by decide +kernel, by decide +kernel⟩, List.mem_of_getElem? (i := 170) (by decide +kernel), List.mem_of_getElem? (i := 451) (by decide +kernel), List.mem_of_getElem? (i := 452) (by decide +kernel)⟩
def lw_privs_1 : List (MethodName × Nat) := [(⟨"CaskGauge$Text", "goesOn", "(I)Z"⟩, 5), (⟨"CaskGauge$Text", "putKind", "(II)V"⟩, 5), (⟨"CaskGauge$Text", "kindOfWord", "(II)I"⟩, 5), (⟨"CaskGauge$Text", "isWord", "(Ljava/lang/String;II)Z"⟩, 5), (⟨"CaskGauge$Text", "kindOfNumber", "(II)I"⟩, 5), (⟨"CaskGauge$Text", "valueOf", "(II)I"⟩, 5), (⟨"CaskGauge$Reader", "readItem", "()Z"⟩, 4), (⟨"CaskGauge$Reader", "readCask", "()Z"⟩, 4), (⟨"CaskGauge$Reader", "readNumber", "(II)Z"⟩, 4), (⟨"CaskGauge$Reader", "step", "()V"⟩, 4), (⟨"CaskGauge$Reader", "readItemEnd", "()Z"⟩, 4), (⟨"CaskGauge$Reader", "readStands", "()Z"⟩, 4), (⟨"CaskGauge", "roomIn", "(I)I"⟩, 11), (⟨"CaskGauge", "levelsOf", "(I)LCaskGauge$Levels;"⟩, 11), (⟨"CaskGauge", "lyingLevelsOf", "(I)LCaskGauge$Levels;"⟩, 11), (⟨"CaskGauge$Levels", "addAhead", "(II)V"⟩, 6)]
theorem lw_r1 : ∀ q ∈ lw_privs_1, lw_okq q := List.forall_mem_cons.mpr ⟨lw_p0, List.forall_mem_cons.mpr ⟨lw_p1, List.forall_mem_cons.mpr ⟨lw_p2, List.forall_mem_cons.mpr ⟨lw_p3, List.forall_mem_cons.mpr ⟨lw_p4, List.forall_mem_cons.mpr ⟨lw_p5, List.forall_mem_cons.mpr ⟨lw_p6, List.forall_mem_cons.mpr ⟨lw_p7, List.forall_mem_cons.mpr ⟨lw_p8, List.forall_mem_cons.mpr ⟨lw_p9, List.forall_mem_cons.mpr ⟨lw_p10, List.forall_mem_cons.mpr ⟨lw_p11, List.forall_mem_cons.mpr ⟨lw_p12, List.forall_mem_cons.mpr ⟨lw_p13, List.forall_mem_cons.mpr ⟨lw_p14, List.forall_mem_cons.mpr ⟨lw_p15, fun _ h => absurd h List.not_mem_nil⟩⟩⟩⟩⟩⟩⟩⟩⟩⟩⟩⟩⟩⟩⟩⟩
theorem lw_p16 : lw_okq (⟨"CaskGauge$Sharing", "weigh", "(LCaskGauge$Levels;III)V"⟩, 5) := ⟨⟨by decide +kernel, by decide +kernel⟩, List.mem_of_getElem? (i := 195) (by decide +kernel), List.mem_of_getElem? (i := 557) (by decide +kernel), List.mem_of_getElem? (i := 558) (by decide +kernel)⟩
theorem lw_p17 : lw_okq (⟨"CaskGauge", "startAsking", "()V"⟩, 11) := ⟨⟨by decide +kernel, by decide +kernel⟩, List.mem_of_getElem? (i := 18) (by decide +kernel), List.mem_of_getElem? (i := 609) (by decide +kernel), List.mem_of_getElem? (i := 610) (by decide +kernel)⟩
theorem lw_p18 : lw_okq (⟨"CaskGauge", "mostAlike", "(I)I"⟩, 11) := ⟨⟨by decide +kernel, by decide +kernel⟩, List.mem_of_getElem? (i := 18) (by decide +kernel), List.mem_of_getElem? (i := 613) (by decide +kernel), List.mem_of_getElem? (i := 614) (by decide +kernel)⟩
theorem lw_p19 : lw_okq (⟨"CaskGauge", "raiseAskedDips", "(I)Z"⟩, 11) := ⟨⟨by decide +kernel, by decide +kernel⟩, List.mem_of_getElem? (i := 18) (by decide +kernel), List.mem_of_getElem? (i := 618) (by decide +kernel), List.mem_of_getElem? (i := 619) (by decide +kernel)⟩
theorem lw_p20 : lw_okq (⟨"CaskGaugeModel", "reads", "()I"⟩, 21) := ⟨⟨by decide +kernel, by decide +kernel⟩, List.mem_of_getElem? (i := 643) (by decide +kernel), List.mem_of_getElem? (i := 728) (by decide +kernel), List.mem_of_getElem? (i := 729) (by decide +kernel)⟩
theorem lw_p21 : lw_okq (⟨"CaskGaugeModel", "steps", "()V"⟩, 21) := ⟨⟨by decide +kernel, by decide +kernel⟩, List.mem_of_getElem? (i := 643) (by decide +kernel), List.mem_of_getElem? (i := 732) (by decide +kernel), List.mem_of_getElem? (i := 733) (by decide +kernel)⟩
theorem lw_p22 : lw_okq (⟨"CaskGaugeModel", "at", "(I)I"⟩, 21) := ⟨⟨by decide +kernel, by decide +kernel⟩, List.mem_of_getElem? (i := 643) (by decide +kernel), List.mem_of_getElem? (i := 736) (by decide +kernel), List.mem_of_getElem? (i := 737) (by decide +kernel)⟩
theorem lw_p23 : lw_okq (⟨"CaskGaugeModel", "takesFigures", "()V"⟩, 21) := ⟨⟨by decide +kernel, by decide +kernel⟩, List.mem_of_getElem? (i := 643) (by decide +kernel), List.mem_of_getElem? (i := 740) (by decide +kernel), List.mem_of_getElem? (i := 741) (by decide +kernel)⟩
theorem lw_p24 : lw_okq (⟨"CaskGaugeModel", "isCaskWord", "()Z"⟩, 21) := ⟨⟨by decide +kernel, by decide +kernel⟩, List.mem_of_getElem? (i := 643) (by decide +kernel), List.mem_of_getElem? (i := 744) (by decide +kernel), List.mem_of_getElem? (i := 745) (by decide +kernel)⟩
theorem lw_p25 : lw_okq (⟨"CaskGaugeModel", "isStandsWord", "()Z"⟩, 21) := ⟨⟨by decide +kernel, by decide +kernel⟩, List.mem_of_getElem? (i := 643) (by decide +kernel), List.mem_of_getElem? (i := 748) (by decide +kernel), List.mem_of_getElem? (i := 749) (by decide +kernel)⟩
theorem lw_p26 : lw_okq (⟨"CaskGaugeModel", "readsCask", "()V"⟩, 21) := ⟨⟨by decide +kernel, by decide +kernel⟩, List.mem_of_getElem? (i := 643) (by decide +kernel), List.mem_of_getElem? (i := 752) (by decide +kernel), List.mem_of_getElem? (i := 753) (by decide +kernel)⟩
theorem lw_p27 : lw_okq (⟨"CaskGaugeModel", "takes", "(Z)V"⟩, 21) := ⟨⟨by decide +kernel, by decide +kernel⟩, List.mem_of_getElem? (i := 643) (by decide +kernel), List.mem_of_getElem? (i := 756) (by decide +kernel), List.mem_of_getElem? (i := 757) (by decide +kernel)⟩
theorem lw_p28 : lw_okq (⟨"CaskGaugeModel", "numberIn", "(II)I"⟩, 21) := ⟨⟨by decide +kernel, by decide +kernel⟩, List.mem_of_getElem? (i := 643) (by decide +kernel), List.mem_of_getElem? (i := 760) (by decide +kernel), List.mem_of_getElem? (i := 761) (by decide +kernel)⟩
theorem lw_p29 : lw_okq (⟨"CaskGaugeModel", "readsStands", "()V"⟩, 21) := ⟨⟨by decide +kernel, by decide +kernel⟩, List.mem_of_getElem? (i := 643) (by decide +kernel), List.mem_of_getElem? (i := 764) (by decide +kernel), List.mem_of_getElem? (i := 765) (by decide +kernel)⟩
theorem lw_p30 : lw_okq (⟨"CaskGaugeModel", "notes", "()V"⟩, 21) := ⟨⟨by decide +kernel, by decide +kernel⟩, List.mem_of_getElem? (i := 643) (by decide +kernel), List.mem_of_getElem? (i := 768) (by decide +kernel), List.mem_of_getElem? (i := 769) (by decide +kernel)⟩
theorem lw_p31 : lw_okq (⟨"CaskGaugeModel", "isCask", "(I)Z"⟩, 21) := ⟨⟨by decide +kernel, by decide +kernel⟩, List.mem_of_getElem? (i := 643) (by decide +kernel), List.mem_of_getElem? (i := 776) (by decide +kernel), List.mem_of_getElem? (i := 777) (by decide +kernel)⟩
def lw_privs_2 : List (MethodName × Nat) := [(⟨"CaskGauge$Sharing", "weigh", "(LCaskGauge$Levels;III)V"⟩, 5), (⟨"CaskGauge", "startAsking", "()V"⟩, 11), (⟨"CaskGauge", "mostAlike", "(I)I"⟩, 11), (⟨"CaskGauge", "raiseAskedDips", "(I)Z"⟩, 11), (⟨"CaskGaugeModel", "reads", "()I"⟩, 21), (⟨"CaskGaugeModel", "steps", "()V"⟩, 21), (⟨"CaskGaugeModel", "at", "(I)I"⟩, 21), (⟨"CaskGaugeModel", "takesFigures", "()V"⟩, 21), (⟨"CaskGaugeModel", "isCaskWord", "()Z"⟩, 21), (⟨"CaskGaugeModel", "isStandsWord", "()Z"⟩, 21), (⟨"CaskGaugeModel", "readsCask", "()V"⟩, 21), (⟨"CaskGaugeModel", "takes", "(Z)V"⟩, 21), (⟨"CaskGaugeModel", "numberIn", "(II)I"⟩, 21), (⟨"CaskGaugeModel", "readsStands", "()V"⟩, 21), (⟨"CaskGaugeModel", "notes", "()V"⟩, 21), (⟨"CaskGaugeModel", "isCask", "(I)Z"⟩, 21)]
theorem lw_r2 : ∀ q ∈ lw_privs_2, lw_okq q := List.forall_mem_cons.mpr ⟨lw_p16, List.forall_mem_cons.mpr ⟨lw_p17, List.forall_mem_cons.mpr ⟨lw_p18, List.forall_mem_cons.mpr ⟨lw_p19, List.forall_mem_cons.mpr ⟨lw_p20, List.forall_mem_cons.mpr ⟨lw_p21, List.forall_mem_cons.mpr ⟨lw_p22, List.forall_mem_cons.mpr ⟨lw_p23, List.forall_mem_cons.mpr ⟨lw_p24, List.forall_mem_cons.mpr ⟨lw_p25, List.forall_mem_cons.mpr ⟨lw_p26, List.forall_mem_cons.mpr ⟨lw_p27, List.forall_mem_cons.mpr ⟨lw_p28, List.forall_mem_cons.mpr ⟨lw_p29, List.forall_mem_cons.mpr ⟨lw_p30, List.forall_mem_cons.mpr ⟨lw_p31, fun _ h => absurd h List.not_mem_nil⟩⟩⟩⟩⟩⟩⟩⟩⟩⟩⟩⟩⟩⟩⟩⟩
theorem lw_p32 : lw_okq (⟨"CaskGaugeModel", "hold", "(I)I"⟩, 21) := ⟨⟨by decide +kernel, by decide +kernel⟩, List.mem_of_getElem? (i := 643) (by decide +kernel), List.mem_of_getElem? (i := 780) (by decide +kernel), List.mem_of_getElem? (i := 781) (by decide +kernel)⟩
theorem lw_p33 : lw_okq (⟨"CaskGaugeModel", "laysNow", "(I)V"⟩, 21) := ⟨⟨by decide +kernel, by decide +kernel⟩, List.mem_of_getElem? (i := 643) (by decide +kernel), List.mem_of_getElem? (i := 784) (by decide +kernel), List.mem_of_getElem? (i := 785) (by decide +kernel)⟩
theorem lw_p34 : lw_okq (⟨"CaskGaugeModel", "of", "(II)I"⟩, 21) := ⟨⟨by decide +kernel, by decide +kernel⟩, List.mem_of_getElem? (i := 643) (by decide +kernel), List.mem_of_getElem? (i := 788) (by decide +kernel), List.mem_of_getElem? (i := 789) (by decide +kernel)⟩
theorem lw_p35 : lw_okq (⟨"CaskGaugeModel", "lays", "(IZ)V"⟩, 21) := ⟨⟨by decide +kernel, by decide +kernel⟩, List.mem_of_getElem? (i := 643) (by decide +kernel), List.mem_of_getElem? (i := 792) (by decide +kernel), List.mem_of_getElem? (i := 793) (by decide +kernel)⟩
theorem lw_p36 : lw_okq (⟨"CaskGaugeModel", "cellsOf", "(III)I"⟩, 21) := ⟨⟨by decide +kernel, by decide +kernel⟩, List.mem_of_getElem? (i := 643) (by decide +kernel), List.mem_of_getElem? (i := 796) (by decide +kernel), List.mem_of_getElem? (i := 797) (by decide +kernel)⟩
theorem lw_p37 : lw_okq (⟨"CaskGaugeModel", "radius", "(II)I"⟩, 21) := ⟨⟨by decide +kernel, by decide +kernel⟩, List.mem_of_getElem? (i := 643) (by decide +kernel), List.mem_of_getElem? (i := 800) (by decide +kernel), List.mem_of_getElem? (i := 801) (by decide +kernel)⟩
theorem lw_p38 : lw_okq (⟨"CaskGaugeModel", "goes", "(II)I"⟩, 21) := ⟨⟨by decide +kernel, by decide +kernel⟩, List.mem_of_getElem? (i := 643) (by decide +kernel), List.mem_of_getElem? (i := 808) (by decide +kernel), List.mem_of_getElem? (i := 809) (by decide +kernel)⟩
theorem lw_p39 : lw_okq (⟨"CaskGaugeModel", "dipOf", "(I)I"⟩, 21) := ⟨⟨by decide +kernel, by decide +kernel⟩, List.mem_of_getElem? (i := 643) (by decide +kernel), List.mem_of_getElem? (i := 828) (by decide +kernel), List.mem_of_getElem? (i := 829) (by decide +kernel)⟩
theorem lw_p40 : lw_okq (⟨"CaskGaugeModel", "strength", "(I)F"⟩, 21) := ⟨⟨by decide +kernel, by decide +kernel⟩, List.mem_of_getElem? (i := 643) (by decide +kernel), List.mem_of_getElem? (i := 833) (by decide +kernel), List.mem_of_getElem? (i := 834) (by decide +kernel)⟩
theorem lw_p41 : lw_okq (⟨"CaskGaugeModel", "isHeight", "(II)Z"⟩, 21) := ⟨⟨by decide +kernel, by decide +kernel⟩, List.mem_of_getElem? (i := 643) (by decide +kernel), List.mem_of_getElem? (i := 845) (by decide +kernel), List.mem_of_getElem? (i := 846) (by decide +kernel)⟩
theorem lw_p42 : lw_okq (⟨"CaskGaugeModel", "mostBy", "(III)I"⟩, 21) := ⟨⟨by decide +kernel, by decide +kernel⟩, List.mem_of_getElem? (i := 643) (by decide +kernel), List.mem_of_getElem? (i := 865) (by decide +kernel), List.mem_of_getElem? (i := 866) (by decide +kernel)⟩
theorem lw_p43 : lw_okq (⟨"CaskGaugeModel", "strongest", "()I"⟩, 21) := ⟨⟨by decide +kernel, by decide +kernel⟩, List.mem_of_getElem? (i := 643) (by decide +kernel), List.mem_of_getElem? (i := 873) (by decide +kernel), List.mem_of_getElem? (i := 874) (by decide +kernel)⟩
theorem lw_p44 : lw_okq (⟨"CaskGaugeModel", "mean", "()I"⟩, 21) := ⟨⟨by decide +kernel, by decide +kernel⟩, List.mem_of_getElem? (i := 643) (by decide +kernel), List.mem_of_getElem? (i := 877) (by decide +kernel), List.mem_of_getElem? (i := 878) (by decide +kernel)⟩
theorem lw_p45 : lw_okq (⟨"CaskGaugeModel", "suspects", "()I"⟩, 21) := ⟨⟨by decide +kernel, by decide +kernel⟩, List.mem_of_getElem? (i := 643) (by decide +kernel), List.mem_of_getElem? (i := 894) (by decide +kernel), List.mem_of_getElem? (i := 895) (by decide +kernel)⟩
theorem lw_p46 : lw_okq (⟨"CaskGaugeModel", "laysDips", "()V"⟩, 21) := ⟨⟨by decide +kernel, by decide +kernel⟩, List.mem_of_getElem? (i := 643) (by decide +kernel), List.mem_of_getElem? (i := 902) (by decide +kernel), List.mem_of_getElem? (i := 903) (by decide +kernel)⟩
theorem lw_p47 : lw_okq (⟨"CaskGaugeModel", "alike", "(II)I"⟩, 21) := ⟨⟨by decide +kernel, by decide +kernel⟩, List.mem_of_getElem? (i := 643) (by decide +kernel), List.mem_of_getElem? (i := 906) (by decide +kernel), List.mem_of_getElem? (i := 907) (by decide +kernel)⟩
def lw_privs_3 : List (MethodName × Nat) := [(⟨"CaskGaugeModel", "hold", "(I)I"⟩, 21), (⟨"CaskGaugeModel", "laysNow", "(I)V"⟩, 21), (⟨"CaskGaugeModel", "of", "(II)I"⟩, 21), (⟨"CaskGaugeModel", "lays", "(IZ)V"⟩, 21), (⟨"CaskGaugeModel", "cellsOf", "(III)I"⟩, 21), (⟨"CaskGaugeModel", "radius", "(II)I"⟩, 21), (⟨"CaskGaugeModel", "goes", "(II)I"⟩, 21), (⟨"CaskGaugeModel", "dipOf", "(I)I"⟩, 21), (⟨"CaskGaugeModel", "strength", "(I)F"⟩, 21), (⟨"CaskGaugeModel", "isHeight", "(II)Z"⟩, 21), (⟨"CaskGaugeModel", "mostBy", "(III)I"⟩, 21), (⟨"CaskGaugeModel", "strongest", "()I"⟩, 21), (⟨"CaskGaugeModel", "mean", "()I"⟩, 21), (⟨"CaskGaugeModel", "suspects", "()I"⟩, 21), (⟨"CaskGaugeModel", "laysDips", "()V"⟩, 21), (⟨"CaskGaugeModel", "alike", "(II)I"⟩, 21)]
theorem lw_r3 : ∀ q ∈ lw_privs_3, lw_okq q := List.forall_mem_cons.mpr ⟨lw_p32, List.forall_mem_cons.mpr ⟨lw_p33, List.forall_mem_cons.mpr ⟨lw_p34, List.forall_mem_cons.mpr ⟨lw_p35, List.forall_mem_cons.mpr ⟨lw_p36, List.forall_mem_cons.mpr ⟨lw_p37, List.forall_mem_cons.mpr ⟨lw_p38, List.forall_mem_cons.mpr ⟨lw_p39, List.forall_mem_cons.mpr ⟨lw_p40, List.forall_mem_cons.mpr ⟨lw_p41, List.forall_mem_cons.mpr ⟨lw_p42, List.forall_mem_cons.mpr ⟨lw_p43, List.forall_mem_cons.mpr ⟨lw_p44, List.forall_mem_cons.mpr ⟨lw_p45, List.forall_mem_cons.mpr ⟨lw_p46, List.forall_mem_cons.mpr ⟨lw_p47, fun _ h => absurd h List.not_mem_nil⟩⟩⟩⟩⟩⟩⟩⟩⟩⟩⟩⟩⟩⟩⟩⟩
theorem lw_p48 : lw_okq (⟨"CaskGaugeModel", "sum", "(I)I"⟩, 21) := ⟨⟨by decide +kernel, by decide +kernel⟩, List.mem_of_getElem? (i := 643) (by decide +kernel), List.mem_of_getElem? (i := 922) (by decide +kernel), List.mem_of_getElem? (i := 923) (by decide +kernel)⟩
def lw_privs_4 : List (MethodName × Nat) := [(⟨"CaskGaugeModel", "sum", "(I)I"⟩, 21)]
theorem lw_r4 : ∀ q ∈ lw_privs_4, lw_okq q := List.forall_mem_cons.mpr ⟨lw_p48, fun _ h => absurd h List.not_mem_nil⟩
def lw_privs : List (MethodName × Nat) := lw_privs_1 ++ (lw_privs_2 ++ (lw_privs_3 ++ (lw_privs_4)))
def lw_tbl : List Cond := k2_sels lw_privs ++ tables_1
theorem lw_privs_ok : ∀ q ∈ lw_privs, lw_okq q := by
  show ∀ q ∈ lw_privs_1 ++ (lw_privs_2 ++ (lw_privs_3 ++ (lw_privs_4))), lw_okq q
  exact List.forall_mem_append.mpr ⟨lw_r1, List.forall_mem_append.mpr ⟨lw_r2, List.forall_mem_append.mpr ⟨lw_r3, lw_r4⟩⟩⟩
/-- the streams that the claim lets the run draw from -/
abbrev lw_cs : List Choice := [Jvm.Choice.named "NaN.bits"]
theorem lw_bits : nanBits ∈ lw_cs := by first | decide | exact List.mem_cons_self | simp [lw_cs, nanBits]
end
section
def RX0 : String := "CaskGauge$Cask"
def TX0 : u_T := fun k => match k with
  | 0 => ("CaskGauge$Cask", "slices", "I", false)
  | 1 => ("CaskGauge$Cask", "head", "I", false)
  | 2 => ("CaskGauge$Cask", "belly", "I", false)
  | 3 => ("CaskGauge$Cask", "lies", "Z", false)
  | 4 => ("CaskGauge$Cask", "wine", "I", false)
  | _ => ("CaskGauge$Cask", "spirit", "I", false)
def tyX0 : Nat → FieldType := fun k => match k with
  | 0 => .int
  | 1 => .int
  | 2 => .int
  | 3 => .boolean
  | 4 => .int
  | _ => .int
abbrev wsX00 : List Cond := u_ws RX0 TX0 6
theorem nmX0 : ∀ a, a < 6 → ∀ b, b < 6 → a ≠ b → (TX0 a).2.1 ≠ (TX0 b).2.1 := by decide +kernel
theorem tyX0_ok : ∀ k, k < 6 → parseFieldDescriptor (TX0 k).2.2.1 = some (tyX0 k) := by decide +kernel
abbrev cX0_init : ByteArray := prog_2_method_1_code
def yX0_init : MethodName := ⟨RX0, "<init>", "()V"⟩
abbrev cX0_becomeNew : ByteArray := prog_2_method_2_code
def yX0_becomeNew : MethodName := ⟨RX0, "becomeNew", "(III)V"⟩
abbrev cX0_copyFrom : ByteArray := prog_2_method_3_code
def yX0_copyFrom : MethodName := ⟨RX0, "copyFrom", "(LCaskGauge$Cask;)V"⟩
abbrev cX0_radiusOf : ByteArray := prog_2_method_4_code
def yX0_radiusOf : MethodName := ⟨RX0, "radiusOf", "(I)I"⟩
abbrev cX0_cellsOf : ByteArray := prog_2_method_5_code
def yX0_cellsOf : MethodName := ⟨RX0, "cellsOf", "(II)I"⟩
abbrev cX0_takeIn : ByteArray := prog_2_method_6_code
def yX0_takeIn : MethodName := ⟨RX0, "takeIn", "(II)V"⟩
abbrev cX0_giveOut : ByteArray := prog_2_method_7_code
def yX0_giveOut : MethodName := ⟨RX0, "giveOut", "(I)I"⟩
abbrev cX0_strength : ByteArray := prog_2_method_8_code
def yX0_strength : MethodName := ⟨RX0, "strength", "()F"⟩
def RX1 : String := "CaskGauge$Cellar"
def TX1 : u_T := fun k => match k with
  | 0 => ("CaskGauge$Cellar", "casks", "[LCaskGauge$Cask;", true)
  | _ => ("CaskGauge$Cellar", "size", "I", false)
def tyX1 : Nat → FieldType := fun k => match k with
  | 0 => .array (.object "CaskGauge$Cask")
  | _ => .int
abbrev wsX10 : List Cond := u_ws RX1 TX1 2
theorem nmX1 : ∀ a, a < 2 → ∀ b, b < 2 → a ≠ b → (TX1 a).2.1 ≠ (TX1 b).2.1 := by decide +kernel
theorem tyX1_ok : ∀ k, k < 2 → parseFieldDescriptor (TX1 k).2.2.1 = some (tyX1 k) := by decide +kernel
abbrev cX1_init : ByteArray := prog_3_method_1_code
def yX1_init : MethodName := ⟨RX1, "<init>", "()V"⟩
abbrev cX1_has : ByteArray := prog_3_method_2_code
def yX1_has : MethodName := ⟨RX1, "has", "(I)Z"⟩
abbrev cX1_empty : ByteArray := prog_3_method_3_code
def yX1_empty : MethodName := ⟨RX1, "empty", "()V"⟩
abbrev cX1_add : ByteArray := prog_3_method_4_code
def yX1_add : MethodName := ⟨RX1, "add", "(III)Z"⟩
abbrev cX1_copyFrom : ByteArray := prog_3_method_5_code
def yX1_copyFrom : MethodName := ⟨RX1, "copyFrom", "(LCaskGauge$Cellar;)V"⟩
abbrev cX1_allWine : ByteArray := prog_3_method_6_code
def yX1_allWine : MethodName := ⟨RX1, "allWine", "()I"⟩
abbrev cX1_allSpirit : ByteArray := prog_3_method_7_code
def yX1_allSpirit : MethodName := ⟨RX1, "allSpirit", "()I"⟩
abbrev cX1_strongest : ByteArray := prog_3_method_8_code
def yX1_strongest : MethodName := ⟨RX1, "strongest", "()I"⟩
abbrev cX1_meanStrength : ByteArray := prog_3_method_9_code
def yX1_meanStrength : MethodName := ⟨RX1, "meanStrength", "()F"⟩
def RX2 : String := "CaskGauge$Levels"
def TX2 : u_T := fun k => match k with
  | 0 => ("CaskGauge$Levels", "lying", "Z", true)
  | 1 => ("CaskGauge$Levels", "amounts", "[I", true)
  | 2 => ("CaskGauge$Levels", "slices", "I", false)
  | 3 => ("CaskGauge$Levels", "head", "I", false)
  | 4 => ("CaskGauge$Levels", "belly", "I", false)
  | _ => ("CaskGauge$Levels", "top", "I", false)
def tyX2 : Nat → FieldType := fun k => match k with
  | 0 => .boolean
  | 1 => .array .int
  | 2 => .int
  | 3 => .int
  | 4 => .int
  | _ => .int
abbrev wsX20 : List Cond := u_ws RX2 TX2 6
theorem nmX2 : ∀ a, a < 6 → ∀ b, b < 6 → a ≠ b → (TX2 a).2.1 ≠ (TX2 b).2.1 := by decide +kernel
theorem tyX2_ok : ∀ k, k < 6 → parseFieldDescriptor (TX2 k).2.2.1 = some (tyX2 k) := by decide +kernel
abbrev cX2_init : ByteArray := prog_4_method_1_code
def yX2_init : MethodName := ⟨RX2, "<init>", "(Z)V"⟩
abbrev cX2_measure : ByteArray := prog_4_method_2_code
def yX2_measure : MethodName := ⟨RX2, "measure", "(LCaskGauge$Cask;)V"⟩
abbrev cX2_addAhead : ByteArray := prog_4_method_3_code
def yX2_addAhead : MethodName := ⟨RX2, "addAhead", "(II)V"⟩
abbrev cX2_reach : ByteArray := prog_4_method_4_code
def yX2_reach : MethodName := ⟨RX2, "reach", "(I)Z"⟩
abbrev cX2_amountAt : ByteArray := prog_4_method_5_code
def yX2_amountAt : MethodName := ⟨RX2, "amountAt", "(I)I"⟩
abbrev cX2_hold : ByteArray := prog_4_method_6_code
def yX2_hold : MethodName := ⟨RX2, "hold", "()I"⟩
abbrev cX2_leastDip : ByteArray := prog_4_method_7_code
def yX2_leastDip : MethodName := ⟨RX2, "leastDip", "(I)I"⟩
abbrev cX2_leastDipFrom : ByteArray := prog_4_method_8_code
def yX2_leastDipFrom : MethodName := ⟨RX2, "leastDipFrom", "(II)I"⟩
abbrev cX2_markAt : ByteArray := prog_4_method_9_code
def yX2_markAt : MethodName := ⟨RX2, "markAt", "(II)I"⟩
def RX3 : String := "CaskGauge$Past"
def TX3 : u_T := fun k => match k with
  | 0 => ("CaskGauge$Past", "cellars", "[LCaskGauge$Cellar;", true)
  | 1 => ("CaskGauge$Past", "latest", "I", false)
  | _ => ("CaskGauge$Past", "size", "I", false)
def tyX3 : Nat → FieldType := fun k => match k with
  | 0 => .array (.object "CaskGauge$Cellar")
  | 1 => .int
  | _ => .int
abbrev wsX30 : List Cond := u_ws RX3 TX3 3
theorem nmX3 : ∀ a, a < 3 → ∀ b, b < 3 → a ≠ b → (TX3 a).2.1 ≠ (TX3 b).2.1 := by decide +kernel
theorem tyX3_ok : ∀ k, k < 3 → parseFieldDescriptor (TX3 k).2.2.1 = some (tyX3 k) := by decide +kernel
abbrev cX3_init : ByteArray := prog_5_method_1_code
def yX3_init : MethodName := ⟨RX3, "<init>", "()V"⟩
abbrev cX3_remember : ByteArray := prog_5_method_2_code
def yX3_remember : MethodName := ⟨RX3, "remember", "(LCaskGauge$Cellar;)V"⟩
abbrev cX3_recallInto : ByteArray := prog_5_method_3_code
def yX3_recallInto : MethodName := ⟨RX3, "recallInto", "(LCaskGauge$Cellar;)Z"⟩
def RX4 : String := "CaskGauge$Reader"
def TX4 : u_T := fun k => match k with
  | 0 => ("CaskGauge$Reader", "told", "LCaskGauge$Cellar;", true)
  | 1 => ("CaskGauge$Reader", "items", "I", false)
  | 2 => ("CaskGauge$Reader", "text", "LCaskGauge$Text;", true)
  | _ => ("CaskGauge$Reader", "token", "I", false)
def tyX4 : Nat → FieldType := fun k => match k with
  | 0 => .object "CaskGauge$Cellar"
  | 1 => .int
  | 2 => .object "CaskGauge$Text"
  | _ => .int
abbrev wsX40 : List Cond := u_ws RX4 TX4 4
theorem nmX4 : ∀ a, a < 4 → ∀ b, b < 4 → a ≠ b → (TX4 a).2.1 ≠ (TX4 b).2.1 := by decide +kernel
theorem tyX4_ok : ∀ k, k < 4 → parseFieldDescriptor (TX4 k).2.2.1 = some (tyX4 k) := by decide +kernel
abbrev cX4_init : ByteArray := prog_6_method_1_code
def yX4_init : MethodName := ⟨RX4, "<init>", "(LCaskGauge$Text;)V"⟩
abbrev cX4_readAll : ByteArray := prog_6_method_2_code
def yX4_readAll : MethodName := ⟨RX4, "readAll", "()Z"⟩
abbrev cX4_faultPlace : ByteArray := prog_6_method_3_code
def yX4_faultPlace : MethodName := ⟨RX4, "faultPlace", "()I"⟩
abbrev cX4_readItem : ByteArray := prog_6_method_4_code
def yX4_readItem : MethodName := ⟨RX4, "readItem", "()Z"⟩
abbrev cX4_readCask : ByteArray := prog_6_method_5_code
def yX4_readCask : MethodName := ⟨RX4, "readCask", "()Z"⟩
abbrev cX4_readStands : ByteArray := prog_6_method_6_code
def yX4_readStands : MethodName := ⟨RX4, "readStands", "()Z"⟩
abbrev cX4_readNumber : ByteArray := prog_6_method_7_code
def yX4_readNumber : MethodName := ⟨RX4, "readNumber", "(II)Z"⟩
abbrev cX4_readItemEnd : ByteArray := prog_6_method_8_code
def yX4_readItemEnd : MethodName := ⟨RX4, "readItemEnd", "()Z"⟩
abbrev cX4_step : ByteArray := prog_6_method_9_code
def yX4_step : MethodName := ⟨RX4, "step", "()V"⟩
def RX5 : String := "CaskGauge$Sharing"
def TX5 : u_T := fun k => match k with
  | 0 => ("CaskGauge$Sharing", "greatest", "I", false)
  | 1 => ("CaskGauge$Sharing", "y", "I", false)
  | 2 => ("CaskGauge$Sharing", "z", "I", false)
  | 3 => ("CaskGauge$Sharing", "first", "I", false)
  | _ => ("CaskGauge$Sharing", "last", "I", false)
def tyX5 : Nat → FieldType := fun k => match k with
  | 0 => .int
  | 1 => .int
  | 2 => .int
  | 3 => .int
  | _ => .int
abbrev wsX50 : List Cond := u_ws RX5 TX5 5
theorem nmX5 : ∀ a, a < 5 → ∀ b, b < 5 → a ≠ b → (TX5 a).2.1 ≠ (TX5 b).2.1 := by decide +kernel
theorem tyX5_ok : ∀ k, k < 5 → parseFieldDescriptor (TX5 k).2.2.1 = some (tyX5 k) := by decide +kernel
abbrev cX5_init : ByteArray := prog_7_method_1_code
def yX5_init : MethodName := ⟨RX5, "<init>", "()V"⟩
abbrev cX5_findFairest : ByteArray := prog_7_method_2_code
def yX5_findFairest : MethodName := ⟨RX5, "findFairest", "(LCaskGauge$Levels;II)V"⟩
abbrev cX5_weigh : ByteArray := prog_7_method_3_code
def yX5_weigh : MethodName := ⟨RX5, "weigh", "(LCaskGauge$Levels;III)V"⟩
def RX6 : String := "CaskGauge$Sightings"
def TX6 : u_T := fun k => match k with
  | 0 => ("CaskGauge$Sightings", "amounts", "[I", true)
  | 1 => ("CaskGauge$Sightings", "dips", "[I", true)
  | _ => ("CaskGauge$Sightings", "size", "I", false)
def tyX6 : Nat → FieldType := fun k => match k with
  | 0 => .array .int
  | 1 => .array .int
  | _ => .int
abbrev wsX60 : List Cond := u_ws RX6 TX6 3
theorem nmX6 : ∀ a, a < 3 → ∀ b, b < 3 → a ≠ b → (TX6 a).2.1 ≠ (TX6 b).2.1 := by decide +kernel
theorem tyX6_ok : ∀ k, k < 3 → parseFieldDescriptor (TX6 k).2.2.1 = some (tyX6 k) := by decide +kernel
abbrev cX6_init : ByteArray := prog_8_method_1_code
def yX6_init : MethodName := ⟨RX6, "<init>", "()V"⟩
abbrev cX6_add : ByteArray := prog_8_method_2_code
def yX6_add : MethodName := ⟨RX6, "add", "(II)Z"⟩
abbrev cX6_fits : ByteArray := prog_8_method_3_code
def yX6_fits : MethodName := ⟨RX6, "fits", "(LCaskGauge$Levels;)Z"⟩
def RX7 : String := "CaskGauge$Text"
def TX7 : u_T := fun k => match k with
  | 0 => ("CaskGauge$Text", "letters", "[I", true)
  | 1 => ("CaskGauge$Text", "length", "I", false)
  | 2 => ("CaskGauge$Text", "kinds", "[I", true)
  | 3 => ("CaskGauge$Text", "places", "[I", true)
  | _ => ("CaskGauge$Text", "values", "[I", true)
def tyX7 : Nat → FieldType := fun k => match k with
  | 0 => .array .int
  | 1 => .int
  | 2 => .array .int
  | 3 => .array .int
  | _ => .array .int
abbrev wsX70 : List Cond := u_ws RX7 TX7 5
theorem nmX7 : ∀ a, a < 5 → ∀ b, b < 5 → a ≠ b → (TX7 a).2.1 ≠ (TX7 b).2.1 := by decide +kernel
theorem tyX7_ok : ∀ k, k < 5 → parseFieldDescriptor (TX7 k).2.2.1 = some (tyX7 k) := by decide +kernel
abbrev cX7_init : ByteArray := prog_9_method_1_code
def yX7_init : MethodName := ⟨RX7, "<init>", "()V"⟩
abbrev cX7_add : ByteArray := prog_9_method_2_code
def yX7_add : MethodName := ⟨RX7, "add", "(I)Z"⟩
abbrev cX7_split : ByteArray := prog_9_method_3_code
def yX7_split : MethodName := ⟨RX7, "split", "()V"⟩
abbrev cX7_goesOn : ByteArray := prog_9_method_4_code
def yX7_goesOn : MethodName := ⟨RX7, "goesOn", "(I)Z"⟩
abbrev cX7_putKind : ByteArray := prog_9_method_5_code
def yX7_putKind : MethodName := ⟨RX7, "putKind", "(II)V"⟩
abbrev cX7_kindOfWord : ByteArray := prog_9_method_6_code
def yX7_kindOfWord : MethodName := ⟨RX7, "kindOfWord", "(II)I"⟩
abbrev cX7_isWord : ByteArray := prog_9_method_7_code
def yX7_isWord : MethodName := ⟨RX7, "isWord", "(Ljava/lang/String;II)Z"⟩
abbrev cX7_kindOfNumber : ByteArray := prog_9_method_8_code
def yX7_kindOfNumber : MethodName := ⟨RX7, "kindOfNumber", "(II)I"⟩
abbrev cX7_valueOf : ByteArray := prog_9_method_9_code
def yX7_valueOf : MethodName := ⟨RX7, "valueOf", "(II)I"⟩
abbrev cX7_isSmallLetter : ByteArray := prog_9_method_10_code
def yX7_isSmallLetter : MethodName := ⟨RX7, "isSmallLetter", "(I)Z"⟩
abbrev cX7_isFigure : ByteArray := prog_9_method_11_code
def yX7_isFigure : MethodName := ⟨RX7, "isFigure", "(I)Z"⟩
def RX8 : String := "CaskGauge"
def TX8 : u_T := fun k => match k with
  | 0 => ("CaskGauge", "text", "LCaskGauge$Text;", true)
  | 1 => ("CaskGauge", "reader", "LCaskGauge$Reader;", true)
  | 2 => ("CaskGauge", "cellar", "LCaskGauge$Cellar;", true)
  | 3 => ("CaskGauge", "past", "LCaskGauge$Past;", true)
  | 4 => ("CaskGauge", "images", "[LCaskGauge$Cellar;", true)
  | 5 => ("CaskGauge", "kept", "[Z", true)
  | 6 => ("CaskGauge", "seen", "LCaskGauge$Sightings;", true)
  | 7 => ("CaskGauge", "lying", "[LCaskGauge$Levels;", true)
  | 8 => ("CaskGauge", "standing", "[LCaskGauge$Levels;", true)
  | 9 => ("CaskGauge", "sharing", "LCaskGauge$Sharing;", true)
  | _ => ("CaskGauge", "askedDips", "[I", true)
def tyX8 : Nat → FieldType := fun k => match k with
  | 0 => .object "CaskGauge$Text"
  | 1 => .object "CaskGauge$Reader"
  | 2 => .object "CaskGauge$Cellar"
  | 3 => .object "CaskGauge$Past"
  | 4 => .array (.object "CaskGauge$Cellar")
  | 5 => .array .boolean
  | 6 => .object "CaskGauge$Sightings"
  | 7 => .array (.object "CaskGauge$Levels")
  | 8 => .array (.object "CaskGauge$Levels")
  | 9 => .object "CaskGauge$Sharing"
  | _ => .array .int
abbrev wsX80 : List Cond := u_ws RX8 TX8 11
theorem nmX8 : ∀ a, a < 11 → ∀ b, b < 11 → a ≠ b → (TX8 a).2.1 ≠ (TX8 b).2.1 := by decide +kernel
theorem tyX8_ok : ∀ k, k < 11 → parseFieldDescriptor (TX8 k).2.2.1 = some (tyX8 k) := by decide +kernel
abbrev cX8_init : ByteArray := prog_1_method_1_code
def yX8_init : MethodName := ⟨RX8, "<init>", "()V"⟩
abbrev cX8_type : ByteArray := prog_1_method_2_code
def yX8_type : MethodName := ⟨RX8, "type", "(I)I"⟩
abbrev cX8_clear : ByteArray := prog_1_method_3_code
def yX8_clear : MethodName := ⟨RX8, "clear", "()I"⟩
abbrev cX8_tells : ByteArray := prog_1_method_4_code
def yX8_tells : MethodName := ⟨RX8, "tells", "()I"⟩
abbrev cX8_fills : ByteArray := prog_1_method_5_code
def yX8_fills : MethodName := ⟨RX8, "fills", "(III)I"⟩
abbrev cX8_draws : ByteArray := prog_1_method_6_code
def yX8_draws : MethodName := ⟨RX8, "draws", "(II)I"⟩
abbrev cX8_pours : ByteArray := prog_1_method_7_code
def yX8_pours : MethodName := ⟨RX8, "pours", "(III)I"⟩
abbrev cX8_turnsOver : ByteArray := prog_1_method_8_code
def yX8_turnsOver : MethodName := ⟨RX8, "turnsOver", "(I)I"⟩
abbrev cX8_undo : ByteArray := prog_1_method_9_code
def yX8_undo : MethodName := ⟨RX8, "undo", "()I"⟩
abbrev cX8_cask : ByteArray := prog_1_method_10_code
def yX8_cask : MethodName := ⟨RX8, "cask", "(II)I"⟩
abbrev cX8_slice : ByteArray := prog_1_method_11_code
def yX8_slice : MethodName := ⟨RX8, "slice", "(III)I"⟩
abbrev cX8_under : ByteArray := prog_1_method_12_code
def yX8_under : MethodName := ⟨RX8, "under", "(II)I"⟩
abbrev cX8_dip : ByteArray := prog_1_method_13_code
def yX8_dip : MethodName := ⟨RX8, "dip", "(II)I"⟩
abbrev cX8_stick : ByteArray := prog_1_method_14_code
def yX8_stick : MethodName := ⟨RX8, "stick", "(III)I"⟩
abbrev cX8_known : ByteArray := prog_1_method_15_code
def yX8_known : MethodName := ⟨RX8, "known", "(III)I"⟩
abbrev cX8_shares : ByteArray := prog_1_method_16_code
def yX8_shares : MethodName := ⟨RX8, "shares", "(III)I"⟩
abbrev cX8_all : ByteArray := prog_1_method_17_code
def yX8_all : MethodName := ⟨RX8, "all", "(I)I"⟩
abbrev cX8_sees : ByteArray := prog_1_method_18_code
def yX8_sees : MethodName := ⟨RX8, "sees", "(II)I"⟩
abbrev cX8_forget : ByteArray := prog_1_method_19_code
def yX8_forget : MethodName := ⟨RX8, "forget", "()I"⟩
abbrev cX8_which : ByteArray := prog_1_method_20_code
def yX8_which : MethodName := ⟨RX8, "which", "()I"⟩
abbrev cX8_ask : ByteArray := prog_1_method_21_code
def yX8_ask : MethodName := ⟨RX8, "ask", "()I"⟩
abbrev cX8_keep : ByteArray := prog_1_method_22_code
def yX8_keep : MethodName := ⟨RX8, "keep", "(I)I"⟩
abbrev cX8_back : ByteArray := prog_1_method_23_code
def yX8_back : MethodName := ⟨RX8, "back", "(I)I"⟩
abbrev cX8_count : ByteArray := prog_1_method_24_code
def yX8_count : MethodName := ⟨RX8, "count", "(I)I"⟩
abbrev cX8_levelsOf : ByteArray := prog_1_method_25_code
def yX8_levelsOf : MethodName := ⟨RX8, "levelsOf", "(I)LCaskGauge$Levels;"⟩
abbrev cX8_lyingLevelsOf : ByteArray := prog_1_method_26_code
def yX8_lyingLevelsOf : MethodName := ⟨RX8, "lyingLevelsOf", "(I)LCaskGauge$Levels;"⟩
abbrev cX8_roomIn : ByteArray := prog_1_method_27_code
def yX8_roomIn : MethodName := ⟨RX8, "roomIn", "(I)I"⟩
abbrev cX8_inThousandths : ByteArray := prog_1_method_28_code
def yX8_inThousandths : MethodName := ⟨RX8, "inThousandths", "(F)I"⟩
abbrev cX8_startAsking : ByteArray := prog_1_method_29_code
def yX8_startAsking : MethodName := ⟨RX8, "startAsking", "()V"⟩
abbrev cX8_raiseAskedDips : ByteArray := prog_1_method_30_code
def yX8_raiseAskedDips : MethodName := ⟨RX8, "raiseAskedDips", "(I)Z"⟩
abbrev cX8_mostAlike : ByteArray := prog_1_method_31_code
def yX8_mostAlike : MethodName := ⟨RX8, "mostAlike", "(I)I"⟩
def RX9 : String := "CaskGaugeModel"
def TX9 : u_T := fun k => match k with
  | 0 => ("CaskGaugeModel", "thrown", "I", false)
  | 1 => ("CaskGaugeModel", "s", "[I", true)
  | 2 => ("CaskGaugeModel", "draft", "[I", true)
  | 3 => ("CaskGaugeModel", "past", "[I", true)
  | 4 => ("CaskGaugeModel", "undos", "I", false)
  | 5 => ("CaskGaugeModel", "kept", "[I", true)
  | 6 => ("CaskGaugeModel", "isKept", "[Z", true)
  | 7 => ("CaskGaugeModel", "facts", "[I", true)
  | 8 => ("CaskGaugeModel", "manyFacts", "I", false)
  | 9 => ("CaskGaugeModel", "text", "[B", true)
  | 10 => ("CaskGaugeModel", "typed", "I", false)
  | 11 => ("CaskGaugeModel", "from", "I", false)
  | 12 => ("CaskGaugeModel", "to", "I", false)
  | 13 => ("CaskGaugeModel", "token", "I", false)
  | 14 => ("CaskGaugeModel", "number", "I", false)
  | 15 => ("CaskGaugeModel", "fault", "I", false)
  | 16 => ("CaskGaugeModel", "under", "[I", true)
  | 17 => ("CaskGaugeModel", "top", "I", false)
  | 18 => ("CaskGaugeModel", "first", "I", false)
  | 19 => ("CaskGaugeModel", "last", "I", false)
  | _ => ("CaskGaugeModel", "dips", "[I", true)
def tyX9 : Nat → FieldType := fun k => match k with
  | 0 => .int
  | 1 => .array .int
  | 2 => .array .int
  | 3 => .array .int
  | 4 => .int
  | 5 => .array .int
  | 6 => .array .boolean
  | 7 => .array .int
  | 8 => .int
  | 9 => .array .byte
  | 10 => .int
  | 11 => .int
  | 12 => .int
  | 13 => .int
  | 14 => .int
  | 15 => .int
  | 16 => .array .int
  | 17 => .int
  | 18 => .int
  | 19 => .int
  | _ => .array .int
abbrev wsX90 : List Cond := u_ws RX9 TX9 21
theorem nmX9 : ∀ a, a < 21 → ∀ b, b < 21 → a ≠ b → (TX9 a).2.1 ≠ (TX9 b).2.1 := by decide +kernel
theorem tyX9_ok : ∀ k, k < 21 → parseFieldDescriptor (TX9 k).2.2.1 = some (tyX9 k) := by decide +kernel
abbrev cX9_init : ByteArray := prog_11_method_1_code
def yX9_init : MethodName := ⟨RX9, "<init>", "()V"⟩
abbrev cX9_in : ByteArray := prog_11_method_3_code
def yX9_in : MethodName := ⟨RX9, "in", "(III)Z"⟩
abbrev cX9_type : ByteArray := prog_11_method_4_code
def yX9_type : MethodName := ⟨RX9, "type", "(I)I"⟩
abbrev cX9_clear : ByteArray := prog_11_method_5_code
def yX9_clear : MethodName := ⟨RX9, "clear", "()I"⟩
abbrev cX9_at : ByteArray := prog_11_method_6_code
def yX9_at : MethodName := ⟨RX9, "at", "(I)I"⟩
abbrev cX9_isCaskWord : ByteArray := prog_11_method_7_code
def yX9_isCaskWord : MethodName := ⟨RX9, "isCaskWord", "()Z"⟩
abbrev cX9_isStandsWord : ByteArray := prog_11_method_8_code
def yX9_isStandsWord : MethodName := ⟨RX9, "isStandsWord", "()Z"⟩
abbrev cX9_takesFigures : ByteArray := prog_11_method_9_code
def yX9_takesFigures : MethodName := ⟨RX9, "takesFigures", "()V"⟩
abbrev cX9_steps : ByteArray := prog_11_method_10_code
def yX9_steps : MethodName := ⟨RX9, "steps", "()V"⟩
abbrev cX9_takes : ByteArray := prog_11_method_11_code
def yX9_takes : MethodName := ⟨RX9, "takes", "(Z)V"⟩
abbrev cX9_numberIn : ByteArray := prog_11_method_12_code
def yX9_numberIn : MethodName := ⟨RX9, "numberIn", "(II)I"⟩
abbrev cX9_readsCask : ByteArray := prog_11_method_13_code
def yX9_readsCask : MethodName := ⟨RX9, "readsCask", "()V"⟩
abbrev cX9_readsStands : ByteArray := prog_11_method_14_code
def yX9_readsStands : MethodName := ⟨RX9, "readsStands", "()V"⟩
abbrev cX9_reads : ByteArray := prog_11_method_15_code
def yX9_reads : MethodName := ⟨RX9, "reads", "()I"⟩
abbrev cX9_tells : ByteArray := prog_11_method_16_code
def yX9_tells : MethodName := ⟨RX9, "tells", "()I"⟩
abbrev cX9_isCask : ByteArray := prog_11_method_17_code
def yX9_isCask : MethodName := ⟨RX9, "isCask", "(I)Z"⟩
abbrev cX9_of : ByteArray := prog_11_method_18_code
def yX9_of : MethodName := ⟨RX9, "of", "(II)I"⟩
abbrev cX9_radius : ByteArray := prog_11_method_19_code
def yX9_radius : MethodName := ⟨RX9, "radius", "(II)I"⟩
abbrev cX9_cellsOf : ByteArray := prog_11_method_20_code
def yX9_cellsOf : MethodName := ⟨RX9, "cellsOf", "(III)I"⟩
abbrev cX9_lays : ByteArray := prog_11_method_21_code
def yX9_lays : MethodName := ⟨RX9, "lays", "(IZ)V"⟩
abbrev cX9_laysNow : ByteArray := prog_11_method_22_code
def yX9_laysNow : MethodName := ⟨RX9, "laysNow", "(I)V"⟩
abbrev cX9_dipOf : ByteArray := prog_11_method_23_code
def yX9_dipOf : MethodName := ⟨RX9, "dipOf", "(I)I"⟩
abbrev cX9_hold : ByteArray := prog_11_method_24_code
def yX9_hold : MethodName := ⟨RX9, "hold", "(I)I"⟩
abbrev cX9_notes : ByteArray := prog_11_method_25_code
def yX9_notes : MethodName := ⟨RX9, "notes", "()V"⟩
abbrev cX9_fills : ByteArray := prog_11_method_26_code
def yX9_fills : MethodName := ⟨RX9, "fills", "(III)I"⟩
abbrev cX9_goes : ByteArray := prog_11_method_27_code
def yX9_goes : MethodName := ⟨RX9, "goes", "(II)I"⟩
abbrev cX9_draws : ByteArray := prog_11_method_28_code
def yX9_draws : MethodName := ⟨RX9, "draws", "(II)I"⟩
abbrev cX9_pours : ByteArray := prog_11_method_29_code
def yX9_pours : MethodName := ⟨RX9, "pours", "(III)I"⟩
abbrev cX9_turnsOver : ByteArray := prog_11_method_30_code
def yX9_turnsOver : MethodName := ⟨RX9, "turnsOver", "(I)I"⟩
abbrev cX9_undo : ByteArray := prog_11_method_31_code
def yX9_undo : MethodName := ⟨RX9, "undo", "()I"⟩
abbrev cX9_strength : ByteArray := prog_11_method_32_code
def yX9_strength : MethodName := ⟨RX9, "strength", "(I)F"⟩
abbrev cX9_cask : ByteArray := prog_11_method_33_code
def yX9_cask : MethodName := ⟨RX9, "cask", "(II)I"⟩
abbrev cX9_slice : ByteArray := prog_11_method_34_code
def yX9_slice : MethodName := ⟨RX9, "slice", "(III)I"⟩
abbrev cX9_isHeight : ByteArray := prog_11_method_35_code
def yX9_isHeight : MethodName := ⟨RX9, "isHeight", "(II)Z"⟩
abbrev cX9_under : ByteArray := prog_11_method_36_code
def yX9_under : MethodName := ⟨RX9, "under", "(II)I"⟩
abbrev cX9_dip : ByteArray := prog_11_method_37_code
def yX9_dip : MethodName := ⟨RX9, "dip", "(II)I"⟩
abbrev cX9_stick : ByteArray := prog_11_method_38_code
def yX9_stick : MethodName := ⟨RX9, "stick", "(III)I"⟩
abbrev cX9_known : ByteArray := prog_11_method_39_code
def yX9_known : MethodName := ⟨RX9, "known", "(III)I"⟩
abbrev cX9_mostBy : ByteArray := prog_11_method_40_code
def yX9_mostBy : MethodName := ⟨RX9, "mostBy", "(III)I"⟩
abbrev cX9_shares : ByteArray := prog_11_method_41_code
def yX9_shares : MethodName := ⟨RX9, "shares", "(III)I"⟩
abbrev cX9_strongest : ByteArray := prog_11_method_42_code
def yX9_strongest : MethodName := ⟨RX9, "strongest", "()I"⟩
abbrev cX9_mean : ByteArray := prog_11_method_43_code
def yX9_mean : MethodName := ⟨RX9, "mean", "()I"⟩
abbrev cX9_all : ByteArray := prog_11_method_44_code
def yX9_all : MethodName := ⟨RX9, "all", "(I)I"⟩
abbrev cX9_sees : ByteArray := prog_11_method_45_code
def yX9_sees : MethodName := ⟨RX9, "sees", "(II)I"⟩
abbrev cX9_forget : ByteArray := prog_11_method_46_code
def yX9_forget : MethodName := ⟨RX9, "forget", "()I"⟩
abbrev cX9_suspects : ByteArray := prog_11_method_47_code
def yX9_suspects : MethodName := ⟨RX9, "suspects", "()I"⟩
abbrev cX9_which : ByteArray := prog_11_method_48_code
def yX9_which : MethodName := ⟨RX9, "which", "()I"⟩
abbrev cX9_laysDips : ByteArray := prog_11_method_49_code
def yX9_laysDips : MethodName := ⟨RX9, "laysDips", "()V"⟩
abbrev cX9_alike : ByteArray := prog_11_method_50_code
def yX9_alike : MethodName := ⟨RX9, "alike", "(II)I"⟩
abbrev cX9_ask : ByteArray := prog_11_method_51_code
def yX9_ask : MethodName := ⟨RX9, "ask", "()I"⟩
abbrev cX9_keep : ByteArray := prog_11_method_52_code
def yX9_keep : MethodName := ⟨RX9, "keep", "(I)I"⟩
abbrev cX9_back : ByteArray := prog_11_method_53_code
def yX9_back : MethodName := ⟨RX9, "back", "(I)I"⟩
abbrev cX9_sum : ByteArray := prog_11_method_54_code
def yX9_sum : MethodName := ⟨RX9, "sum", "(I)I"⟩
abbrev cX9_count : ByteArray := prog_11_method_55_code
def yX9_count : MethodName := ⟨RX9, "count", "(I)I"⟩
def RJ6 : String := "java/lang/Integer"
abbrev cJ6_bitCount_0f7a4 : ByteArray := prog_12_method_49_code
def yJ6_bitCount_0f7a4 : MethodName := ⟨RJ6, "bitCount", "(I)I"⟩
def RJ9 : String := "java/lang/Math"
abbrev cJ9_max_7cf53 : ByteArray := prog_13_method_65_code
def yJ9_max_7cf53 : MethodName := ⟨RJ9, "max", "(II)I"⟩
abbrev cJ9_min_7cf53 : ByteArray := prog_13_method_69_code
def yJ9_min_7cf53 : MethodName := ⟨RJ9, "min", "(II)I"⟩
def RJ0 : String := "java/lang/String"
abbrev cJ0_length_8abf5 : ByteArray := prog_14_method_54_code
def yJ0_length_8abf5 : MethodName := ⟨RJ0, "length", "()I"⟩
abbrev cJ0_charAt_5068e : ByteArray := prog_14_method_56_code
def yJ0_charAt_5068e : MethodName := ⟨RJ0, "charAt", "(I)C"⟩
abbrev cJ0_coder_7d493 : ByteArray := prog_14_method_152_code
def yJ0_coder_7d493 : MethodName := ⟨RJ0, "coder", "()B"⟩
abbrev cJ0_isLatin1_aae02 : ByteArray := prog_14_method_154_code
def yJ0_isLatin1_aae02 : MethodName := ⟨RJ0, "isLatin1", "()Z"⟩
abbrev cJ0_checkIndex_df160 : ByteArray := prog_14_method_155_code
def yJ0_checkIndex_df160 : MethodName := ⟨RJ0, "checkIndex", "(II)V"⟩
def RJ1 : String := "java/lang/StringLatin1"
abbrev cJ1_charAt_3b067 : ByteArray := prog_15_method_2_code
def yJ1_charAt_3b067 : MethodName := ⟨RJ1, "charAt", "([BI)C"⟩
def RJ2 : String := "java/lang/StringUTF16"
abbrev cJ2_getChar_3b067 : ByteArray := prog_16_method_5_code
def yJ2_getChar_3b067 : MethodName := ⟨RJ2, "getChar", "([BI)C"⟩
abbrev cJ2_length_9d52b : ByteArray := prog_16_method_6_code
def yJ2_length_9d52b : MethodName := ⟨RJ2, "length", "([B)I"⟩
abbrev cJ2_charAt_3b067 : ByteArray := prog_16_method_83_code
def yJ2_charAt_3b067 : MethodName := ⟨RJ2, "charAt", "([BI)C"⟩
abbrev cJ2_checkIndex_2214a : ByteArray := prog_16_method_91_code
def yJ2_checkIndex_2214a : MethodName := ⟨RJ2, "checkIndex", "(I[B)V"⟩
def RJ3 : String := "jdk/internal/util/Preconditions"
abbrev cJ3_checkIndex_8e157 : ByteArray := prog_17_method_11_code
def yJ3_checkIndex_8e157 : MethodName := ⟨RJ3, "checkIndex", "(IILjava/util/function/BiFunction;)I"⟩
def RL : String := "CaskGaugeLaw"
abbrev cL_law : ByteArray := code
def yL_law : MethodName := ⟨RL, "law", "([I)Z"⟩
abbrev vwCl : List vw_C := [(RX0, TX0, 6), (RX1, TX1, 2), (RX2, TX2, 6), (RX3, TX3, 3), (RX4, TX4, 4), (RX5, TX5, 5), (RX6, TX6, 3), (RX7, TX7, 5), (RX8, TX8, 11), (RX9, TX9, 21)]
end
section

def lw_good : List Cond := lw_tbl.filter goodWord
theorem lw_good_in {w : Cond} (h : w ∈ lw_tbl) (hg : goodWord w = true) : w ∈ lw_good := List.mem_filter.mpr ⟨h, hg⟩
theorem lw_good_sub {w : Cond} (h : w ∈ lw_good) : w ∈ lw_tbl := (List.mem_filter.mp h).1
theorem lw_good_good {w : Cond} (h : w ∈ lw_good) : goodWord w = true := (List.mem_filter.mp h).2
/-- a cell's shape: (0, its class' number, its references) or (an array's type + 1, its length, its references) -/
abbrev sm_S : Type := Nat × Nat × List (Option Nat)
/-- what ints the cells hold: cell, slot -/
abbrev sm_I : Type := Nat → Nat → Int32
/-- where the cells lie: base, addresses, classes and slots, array classes, the strings' arrays -/
abbrev sm_G : Type := Nat × (Nat → Nat) × va_G × (Nat → ClassId) × (Nat → Nat)
abbrev sm_Z : Type := Nat × (Nat → Int32)
/-- a method: its name, code, locals, answer -/
abbrev sm_Mu : Type := MethodName × ByteArray × Nat × Option FieldType
abbrev sm_Qt : Type := Option Value → Nat → (Nat → sm_S) → sm_I → Prop
def sm_ft (c : Nat) : List Bool := match c with
  | 0 => [true, true, true, true, true, true]
  | 1 => [false, true]
  | 2 => [true, false, true, true, true, true]
  | 3 => [false, true, true]
  | 4 => [false, true, false, true]
  | 5 => [true, true, true, true, true]
  | 6 => [false, false, true]
  | 7 => [false, true, false, false, false]
  | 8 => [false, false, false, false, false, false, false, false, false, false, false]
  | 9 => [true, false, false, false, true, false, false, false, true, false, true, true, true, true, true, true, false, true, true, true, false]
  | _ => []
def sm_V (ad : Nat → Nat) : Value → Value
  | .ref a => .ref (ad a)
  | v => v
theorem sm_V_cat (ad : Nat → Nat) (v : Value) : (sm_V ad v).category = v.category := by cases v <;> rfl
def sm_F (ad : Nat → Nat) (c : Nat) (rs : List (Option Nat)) (f : Nat → Int32) : List Value := (List.range (sm_ft c).length).map fun k => if (sm_ft c).getD k false = true then .int (f k) else va_rf ((rs.getD k none).map ad)
def sm_E (ad : Nat → Nat) (g : Nat → ClassId) (q : sm_S) (f : Nat → Int32) : va_E := match q.1 with
  | 0 => .inr (q.2.1, sm_F ad q.2.1 q.2.2 f)
  | t + 1 => if t < 3 then .inl (g t, q.2.1, .inl f) else .inl (g t, q.2.1, .inr (.inr (.inr (.inr (fun j => (q.2.2.getD j none).map ad)))))
def sm_H (Γ : sm_G) (n : Nat) (sh : Nat → sm_S) (I : sm_I) (H : Heap) : Prop := H.size = Γ.1 + n ∧ n ≤ 1000000 ∧ ∀ a, a < n → va_at Γ.2.2.1 vwCl (Γ.2.1 a, sm_E Γ.2.1 Γ.2.2.2.1 (sh a) (I a)) H
def sm_ty (t : Nat) : FieldType := match t with
  | 0 => .int
  | 1 => .boolean
  | 2 => .byte
  | 3 => .object RX0
  | 4 => .object RX1
  | _ => .object RX2
abbrev sm_tys (g : Nat → ClassId) : List (ClassId × FieldType) := [(g 0, sm_ty 0), (g 1, sm_ty 1), (g 2, sm_ty 2), (g 3, sm_ty 3), (g 4, sm_ty 4), (g 5, sm_ty 5)]
def sm_N (U : State) : Prop := va_AO RX0 U ∧ va_AO RX1 U ∧ va_AO RX2 U ∧ va_Nw (.methodLinkNest RX1 17 yX0_init RX8) U ∧ va_Nw (.methodLinkNest RX8 68 yX5_init RX8) U
def sm_O (ζ : sm_Z) (Γ : sm_G) (U : State) (H : Heap) : Prop :=
  vk_R RX7 52 "cask" (Γ.2.1 1000001) U ∧ vk_R RX7 58 "stands" (Γ.2.1 1000002) U ∧
  vk_S 2 [4, 6] [[99, 97, 115, 107], [115, 116, 97, 110, 100, 115]] (fun i => Γ.2.1 (1000001 + i)) Γ.2.2.2.2 (fun q => Γ.1 ≤ q) U H ∧
  va_Z RJ0 "COMPACT_STRINGS" "Z" (.int 1) (fun q => Γ.1 ≤ q) U H ∧ va_Zq RJ3 "SIOOBE_FORMATTER" "Ljava/util/function/BiFunction;" (fun q => Γ.1 ≤ q) U H ∧
  (va_X (Γ.2.1 1000000) ζ.1 ζ.2 U H ∧ Γ.2.1 1000000 < Γ.1)
def sm_K (ζ : sm_Z) (Γ : sm_G) (U : State) : Prop := (∀ k, k < 1000000 → Γ.2.1 k = Γ.1 + k) ∧ va_K Γ.2.2.1 vwCl (sm_tys Γ.2.2.2.1) U ∧ sm_N U ∧ sm_O ζ Γ U U.heap ∧ Γ.1 ≤ U.heap.size
theorem sm_N.warm {s U : State} (hW : s.WarmedH U.vm) (h : sm_N s) : sm_N U := ⟨h.1.moved hW.alike, h.2.1.moved hW.alike, h.2.2.1.moved hW.alike, h.2.2.2.1.warmM hW, h.2.2.2.2.warmM hW⟩
theorem sm_N.same {s U : State} (hv : s.vm = U.vm) (h : sm_N s) : sm_N U := ⟨h.1.moved (by rw [hv]; exact Vm.Alike.refl _), h.2.1.moved (by rw [hv]; exact Vm.Alike.refl _), h.2.2.1.moved (by rw [hv]; exact Vm.Alike.refl _), h.2.2.2.1.same rfl hv, h.2.2.2.2.same rfl hv⟩
theorem sm_O.warm {ζ : sm_Z} {Γ : sm_G} {s U : State} {H H1 : Heap} (hW : s.WarmedH U.vm) (hz : Γ.1 ≤ H.size) (hk : ∀ a : Nat, a < H.size → ¬ Γ.1 ≤ a → H1[a]? = H[a]?) (h : sm_O ζ Γ s H) : sm_O ζ Γ U H1 := by
  obtain ⟨h1, h2, h3, h4, h5, h6, h7⟩ := h
  exact ⟨h1.warm hW, h2.warm hW, (h3.moved hW.alike).kept hk, (h4.moved hW.alike).kept hk, (h5.moved hW.alike).kept hk, (va_X.moved hW.alike h6).kept (hk _ (by omega) (by omega)), h7⟩
theorem sm_O.same {ζ : sm_Z} {Γ : sm_G} {s U : State} {H : Heap} (hv : s.vm = U.vm) (h : sm_O ζ Γ s H) : sm_O ζ Γ U H := by
  obtain ⟨h1, h2, h3, h4, h5, h6, h7⟩ := h
  have ha : s.vm.Alike U.vm := by rw [hv]; exact Vm.Alike.refl _
  exact ⟨h1.same hv.symm, h2.same hv.symm, h3.moved ha, h4.moved ha, h5.moved ha, va_X.moved ha h6, h7⟩
/-- what a callee is told of the machine, out of what its caller knows -/
theorem sm_K.pass {ζ : sm_Z} {Γ : sm_G} {s U : State} {locs : List Loc} (hW : s.WarmedH U.vm) (hS : va_S (fun q => Γ.1 ≤ q) s.heap U.heap locs) (h : sm_K ζ Γ s) : sm_K ζ Γ U := by
  obtain ⟨h1, h2, h3, h4, h5⟩ := h
  exact ⟨h1, h2.moved hW.alike, h3.warm hW, h4.warm hW h5 (fun a z1 z2 => hS.2.1 a z1 z2), Nat.le_trans h5 hS.1⟩
theorem sm_K.same {ζ : sm_Z} {Γ : sm_G} {s U : State} (hv : s.vm = U.vm) (hh : s.heap = U.heap) (h : sm_K ζ Γ s) : sm_K ζ Γ U := by
  obtain ⟨h1, h2, h3, h4, h5⟩ := h
  exact ⟨h1, h2.moved (by rw [hv]; exact Vm.Alike.refl _), h3.same hv, by rw [← hh]; exact h4.same hv, by rw [← hh]; exact h5⟩
def sm_Pc (ζ : sm_Z) (Γ : sm_G) (as : List Value) (n : Nat) (sh : Nat → sm_S) (I : sm_I) : Array Value → State → Prop := va_Pc (as.map (sm_V Γ.2.1)) (fun U => sm_H Γ n sh I U.heap ∧ sm_K ζ Γ U)
def sm_Qc (Γ : sm_G) (Q : sm_Qt) : Array Value → State → Outcome → State → Prop := fun _ st oc t => (∃ r n sh I, oc = .returned (r.map (sm_V Γ.2.1)) ∧ Q r n sh I ∧ sm_H Γ n sh I t.heap) ∧ va_F (fun q => Γ.1 ≤ q) st t
theorem sm_Pc.blind {ζ : sm_Z} {Γ : sm_G} {as : List Value} {n : Nat} {sh : Nat → sm_S} {I : sm_I} : FrameBlind (sm_Pc ζ Γ as n sh I) := by
  intro a U g mk h
  obtain ⟨h1, h2, h3⟩ := h
  exact ⟨h1, h2, h3.same (U := U.calling g mk a) rfl rfl⟩
abbrev sm_rm (d mc ms : Nat) : Room := { frames := d, cells := mc, slots := ms, locals := 40 * d }
abbrev sm_ws (μ : sm_Mu) : List Cond := Cond.code μ.1 μ.2.1 μ.2.2.1 μ.2.2.2 :: lw_good
/-- A METHOD'S CONTRACT: from the shapes sh and the ints I it comes to an answer and a state with Q; d: how many frames it takes -/
def Em (d mc ms : Nat) (μ : sm_Mu) (as : List Value) (n : Nat) (sh : Nat → sm_S) (I : sm_I) (Q : sm_Qt) : Prop := ∀ (ζ : sm_Z) (l : Launch) (Γ : sm_G), Met l μ.1 (sm_ws μ) (sm_rm d mc ms) (sm_Pc ζ Γ as n sh I) (sm_Qc Γ Q) mc ms (fun q => Γ.1 ≤ q)
def sm_L (ad : Nat → Nat) (ls : Array Slot) (nL : Nat) (lv : List (Option Value)) : Prop := ls.size = nL ∧ lv_wf ls ∧ ∀ (i : Nat) (v : Value), lv[i]? = some (some v) → v.category = 1 ∧ ls[i]? = some (.val (sm_V ad v))
def sm_R (μ : sm_Mu) (r : Option Value) (pc : Nat) : Prop := match r with
  | none => μ.2.2.2 = none ∧ decode μ.2.1 pc = .ok (.return_, 1)
  | some (.int v) => (∃ ty, μ.2.2.2 = some ty ∧ narrow ty (.int v) = .int v) ∧ decode μ.2.1 pc = .ok (.ireturn, 1)
  | some (.float _) => μ.2.2.2 = some .float ∧ decode μ.2.1 pc = .ok (.freturn, 1)
  | some (.ref _) => (∃ t, μ.2.2.2 = some (.object t)) ∧ decode μ.2.1 pc = .ok (.areturn, 1)
  | _ => False
/-- what holds all through a method's walk -/
def sm_C (ζ : sm_Z) (Γ : sm_G) (R : Room) (μ : sm_Mu) (p : Program) (l : Launch) (e : Env) (s : State) (m : MethodId) (args : Array Value) (below : List Frame) (meth : Method) (c : Code) (Z : State → Prop) (Q : sm_Qt) : Prop :=
  p.tables.exec = Jvm.exec ∧ c.code = μ.2.1 ∧ c.maxLocals = μ.2.2.1 ∧ s.vm.findClass μ.1.cls = some m.cls ∧ (∀ w ∈ lw_good, w.before args s = true) ∧ meth.name = μ.1.name ∧ sm_K ζ Γ s ∧
  ∀ (r : Option Value) (n : Nat) (sh : Nat → sm_S) (I : sm_I) (H : Heap) (locs : List Loc) (cl sl pc : Nat) (ls : Array Slot), cl ≤ R.cells → sl ≤ R.slots → Q r n sh I → sm_H Γ n sh I H → va_S (fun q => Γ.1 ≤ q) s.heap H locs → sm_R μ r pc → W p l e R s m args below meth c H locs cl sl Z (F0 m pc ls (r.map (sm_V Γ.2.1)).toList)
def sm_D (Γ : sm_G) (s : State) (μ : sm_Mu) (H : Heap) (locs : List Loc) (ls : Array Slot) (lv : List (Option Value)) (n : Nat) (sh : Nat → sm_S) (I : sm_I) : Prop := va_S (fun q => Γ.1 ≤ q) s.heap H locs ∧ sm_H Γ n sh I H ∧ sm_L Γ.2.1 ls μ.2.2.1 lv
/-- THE WALK: at pc, with locals lv and stack st, the shapes sh and the ints I, the method comes to its end with Q -/
def Xm (ζ : sm_Z) (R : Room) (μ : sm_Mu) (pc : Nat) (lv : List (Option Value)) (st : List Value) (cl sl n : Nat) (sh : Nat → sm_S) (I : sm_I) (Q : sm_Qt) : Prop :=
  ∀ (Γ : sm_G) (p : Program) (l : Launch) (e : Env) (s : State) (m : MethodId) (args : Array Value) (below : List Frame) (meth : Method) (c : Code) (Z : State → Prop) (H : Heap) (locs : List Loc) (ls : Array Slot), sm_C ζ Γ R μ p l e s m args below meth c Z Q → sm_D Γ s μ H locs ls lv n sh I → W p l e R s m args below meth c H locs cl sl Z (F0 m pc ls (st.map (sm_V Γ.2.1)))
def sm_A (ad : Nat → Nat) (lv : List (Option Value)) : List (Nat × Value) := (List.range lv.length).filterMap fun j => (lv.getD j none).map fun v => (j, sm_V ad v)
theorem sm_A_mem {ad : Nat → Nat} {lv : List (Option Value)} {j : Nat} {v : Value} (h : lv[j]? = some (some v)) : (j, sm_V ad v) ∈ sm_A ad lv := by
  have hl : j < lv.length := (List.getElem?_eq_some_iff.mp h).1
  refine List.mem_filterMap.mpr ⟨j, List.mem_range.mpr hl, ?_⟩
  rw [List.getD_eq_getElem?_getD, h]
  rfl
theorem sm_A_of {ad : Nat → Nat} {lv : List (Option Value)} {q : Nat × Value} (h : q ∈ sm_A ad lv) : ∃ v, lv[q.1]? = some (some v) ∧ q.2 = sm_V ad v := by
  obtain ⟨j, hj, hq⟩ := List.mem_filterMap.mp h
  have hl := List.mem_range.mp hj
  rw [List.getD_eq_getElem?_getD] at hq
  cases hv : lv[j]? with
  | none => rw [hv] at hq; cases hq
  | some o =>
    cases o with
    | none => rw [hv] at hq; cases hq
    | some v => rw [hv] at hq; cases hq; exact ⟨v, hv, rfl⟩
theorem sm_L.has {ad : Nat → Nat} {ls : Array Slot} {nL : Nat} {lv : List (Option Value)} (h : sm_L ad ls nL lv) : lv_has ls nL (sm_A ad lv) := by
  refine ⟨h.1, h.2.1, fun q hq => ?_⟩
  obtain ⟨v, h1, h2⟩ := sm_A_of hq
  rw [h2]
  exact (h.2.2 q.1 v h1).2
theorem sm_L.set {ad : Nat → Nat} {ls ls' : Array Slot} {nL : Nat} {lv : List (Option Value)} {i : Nat} {v : Value} (hv : v.category = 1) (h0 : sm_L ad ls nL lv) (h : lv_has ls' nL ((i, sm_V ad v) :: (sm_A ad lv).filter (fun q => !(q.1 == i) && !(q.1 + 1 == i && q.2.category == 2)))) : sm_L ad ls' nL (lv.set i (some v)) := by
  refine ⟨h.1, h.2.1, fun j w hj => ?_⟩
  by_cases hji : j = i
  · subst hji
    by_cases hl : j < lv.length
    · rw [List.getElem?_set_self hl] at hj
      cases hj
      exact ⟨hv, h.2.2 _ List.mem_cons_self⟩
    · rw [List.getElem?_eq_none (by rw [List.length_set]; omega)] at hj
      cases hj
  · rw [List.getElem?_set_ne (Ne.symm hji)] at hj
    have hc := (h0.2.2 j w hj).1
    refine ⟨hc, h.2.2 (j, sm_V ad w) (List.mem_cons_of_mem _ (List.mem_filter.mpr ⟨sm_A_mem hj, ?_⟩))⟩
    have h2 : ¬ (sm_V ad w).category = 2 := by rw [sm_V_cat, hc]; decide
    simp [hji, h2]
theorem sm_L.at {ad : Nat → Nat} {ls : Array Slot} {nL : Nat} {lv : List (Option Value)} {i : Nat} {v : Value} (h : sm_L ad ls nL lv) (hv : lv[i]? = some (some v)) : ls[i]? = some (.val (sm_V ad v)) := (h.2.2 i v hv).2
/-- one int of the memory anew -/
def up2 (I : sm_I) (a k : Nat) (v : Int32) : sm_I := fun b j => if b = a ∧ j = k then v else I b j
theorem up2_row {I : sm_I} {a k : Nat} {v : Int32} : up2 I a k v a = upd (I a) k v := by
  funext j
  by_cases h : j = k <;> simp [up2, upd, h]
theorem up2_ne {I : sm_I} {a b k : Nat} {v : Int32} (h : b ≠ a) : up2 I a k v b = I b := by
  funext j
  simp [up2, h]
theorem up2_s {I : sm_I} {a k : Nat} {v : Int32} : up2 I a k v a k = v := by simp [up2]
section SMX
variable {ζ : sm_Z} {R : Room} {μ : sm_Mu} {pc : Nat} {lv : List (Option Value)} {st : List Value} {cl sl n : Nat} {sh : Nat → sm_S} {I : sm_I} {Q : sm_Qt}
theorem x_iadd {x y : Int32} (hd : decode μ.2.1 pc = .ok (.iadd, 1)) (k : Xm ζ R μ (pc + 1) lv (.int (x + y) :: st) cl sl n sh I Q) : Xm ζ R μ pc lv (.int y :: .int x :: st) cl sl n sh I Q := by
  intro Γ p l e s m args below meth c Z H locs ls C D
  exact lv_iadd C.1 C.2.1 hd (k Γ p l e s m args below meth c Z H locs ls C D)

theorem x_isub {x y : Int32} (hd : decode μ.2.1 pc = .ok (.isub, 1)) (k : Xm ζ R μ (pc + 1) lv (.int (x - y) :: st) cl sl n sh I Q) : Xm ζ R μ pc lv (.int y :: .int x :: st) cl sl n sh I Q := by
  intro Γ p l e s m args below meth c Z H locs ls C D
  exact lv_isub C.1 C.2.1 hd (k Γ p l e s m args below meth c Z H locs ls C D)

theorem x_imul {x y : Int32} (hd : decode μ.2.1 pc = .ok (.imul, 1)) (k : Xm ζ R μ (pc + 1) lv (.int (x * y) :: st) cl sl n sh I Q) : Xm ζ R μ pc lv (.int y :: .int x :: st) cl sl n sh I Q := by
  intro Γ p l e s m args below meth c Z H locs ls C D
  exact lv_imul C.1 C.2.1 hd (k Γ p l e s m args below meth c Z H locs ls C D)

theorem x_iand {x y : Int32} (hd : decode μ.2.1 pc = .ok (.iand, 1)) (k : Xm ζ R μ (pc + 1) lv (.int (x &&& y) :: st) cl sl n sh I Q) : Xm ζ R μ pc lv (.int y :: .int x :: st) cl sl n sh I Q := by
  intro Γ p l e s m args below meth c Z H locs ls C D
  exact lv_iand C.1 C.2.1 hd (k Γ p l e s m args below meth c Z H locs ls C D)

theorem x_ior {x y : Int32} (hd : decode μ.2.1 pc = .ok (.ior, 1)) (k : Xm ζ R μ (pc + 1) lv (.int (x ||| y) :: st) cl sl n sh I Q) : Xm ζ R μ pc lv (.int y :: .int x :: st) cl sl n sh I Q := by
  intro Γ p l e s m args below meth c Z H locs ls C D
  exact lv_ior C.1 C.2.1 hd (k Γ p l e s m args below meth c Z H locs ls C D)

theorem x_ishl {x y : Int32} (hd : decode μ.2.1 pc = .ok (.ishl, 1)) (k : Xm ζ R μ (pc + 1) lv (.int (x <<< (y &&& 31)) :: st) cl sl n sh I Q) : Xm ζ R μ pc lv (.int y :: .int x :: st) cl sl n sh I Q := by
  intro Γ p l e s m args below meth c Z H locs ls C D
  exact lv_ishl C.1 C.2.1 hd (k Γ p l e s m args below meth c Z H locs ls C D)

theorem x_ishr {x y : Int32} (hd : decode μ.2.1 pc = .ok (.ishr, 1)) (k : Xm ζ R μ (pc + 1) lv (.int (x >>> (y &&& 31)) :: st) cl sl n sh I Q) : Xm ζ R μ pc lv (.int y :: .int x :: st) cl sl n sh I Q := by
  intro Γ p l e s m args below meth c Z H locs ls C D
  exact lv_ishr C.1 C.2.1 hd (k Γ p l e s m args below meth c Z H locs ls C D)

theorem x_iushr {x y : Int32} (hd : decode μ.2.1 pc = .ok (.iushr, 1)) (k : Xm ζ R μ (pc + 1) lv (.int (x.toUInt32 >>> (y.toUInt32 &&& Int32.toUInt32 31)).toInt32 :: st) cl sl n sh I Q) : Xm ζ R μ pc lv (.int y :: .int x :: st) cl sl n sh I Q := by
  intro Γ p l e s m args below meth c Z H locs ls C D
  exact lv_iushr C.1 C.2.1 hd rfl (k Γ p l e s m args below meth c Z H locs ls C D)

theorem x_idiv {x y : Int32} (hd : decode μ.2.1 pc = .ok (.idiv, 1)) (hne : ¬ y = 0) (k : Xm ζ R μ (pc + 1) lv (.int (x / y) :: st) cl sl n sh I Q) : Xm ζ R μ pc lv (.int y :: .int x :: st) cl sl n sh I Q := by
  intro Γ p l e s m args below meth c Z H locs ls C D
  exact lv_idiv C.1 C.2.1 hd hne (k Γ p l e s m args below meth c Z H locs ls C D)

theorem x_irem {x y : Int32} (hd : decode μ.2.1 pc = .ok (.irem, 1)) (hne : ¬ y = 0) (k : Xm ζ R μ (pc + 1) lv (.int (x - x / y * y) :: st) cl sl n sh I Q) : Xm ζ R μ pc lv (.int y :: .int x :: st) cl sl n sh I Q := by
  intro Γ p l e s m args below meth c Z H locs ls C D
  exact lv_irem C.1 C.2.1 hd hne (k Γ p l e s m args below meth c Z H locs ls C D)

theorem x_i2b {x : Int32} (hd : decode μ.2.1 pc = .ok (.i2b, 1)) (k : Xm ζ R μ (pc + 1) lv (.int x.toInt8.toInt32 :: st) cl sl n sh I Q) : Xm ζ R μ pc lv (.int x :: st) cl sl n sh I Q := by
  intro Γ p l e s m args below meth c Z H locs ls C D
  exact lv_i2b C.1 C.2.1 hd rfl (k Γ p l e s m args below meth c Z H locs ls C D)

theorem x_i2f {x : Int32} (hd : decode μ.2.1 pc = .ok (.i2f, 1)) (k : Xm ζ R μ (pc + 1) lv (.float (FP.i2f x) :: st) cl sl n sh I Q) : Xm ζ R μ pc lv (.int x :: st) cl sl n sh I Q := by
  intro Γ p l e s m args below meth c Z H locs ls C D
  exact lv_i2f C.1 C.2.1 hd (k Γ p l e s m args below meth c Z H locs ls C D)

theorem x_f2i {x : UInt32} (hd : decode μ.2.1 pc = .ok (.f2i, 1)) (k : Xm ζ R μ (pc + 1) lv (.int (FP.f2i x) :: st) cl sl n sh I Q) : Xm ζ R μ pc lv (.float x :: st) cl sl n sh I Q := by
  intro Γ p l e s m args below meth c Z H locs ls C D
  exact lv_f2i C.1 C.2.1 hd (k Γ p l e s m args below meth c Z H locs ls C D)

theorem x_fadd {x y : UInt32} (hd : decode μ.2.1 pc = .ok (.fadd, 1)) (hne : vf_n32 (FP.fadd x y)) (k : Xm ζ R μ (pc + 1) lv (.float (FP.fadd x y) :: st) cl sl n sh I Q) : Xm ζ R μ pc lv (.float y :: .float x :: st) cl sl n sh I Q := by
  intro Γ p l e s m args below meth c Z H locs ls C D
  exact lv_fadd C.1 C.2.1 hd hne (k Γ p l e s m args below meth c Z H locs ls C D)

theorem x_fmul {x y : UInt32} (hd : decode μ.2.1 pc = .ok (.fmul, 1)) (hne : vf_n32 (FP.fmul x y)) (k : Xm ζ R μ (pc + 1) lv (.float (FP.fmul x y) :: st) cl sl n sh I Q) : Xm ζ R μ pc lv (.float y :: .float x :: st) cl sl n sh I Q := by
  intro Γ p l e s m args below meth c Z H locs ls C D
  exact lv_fmul C.1 C.2.1 hd hne (k Γ p l e s m args below meth c Z H locs ls C D)

theorem x_fdiv {x y : UInt32} (hd : decode μ.2.1 pc = .ok (.fdiv, 1)) (hne : vf_n32 (FP.fdiv x y)) (k : Xm ζ R μ (pc + 1) lv (.float (FP.fdiv x y) :: st) cl sl n sh I Q) : Xm ζ R μ pc lv (.float y :: .float x :: st) cl sl n sh I Q := by
  intro Γ p l e s m args below meth c Z H locs ls C D
  exact lv_fdiv C.1 C.2.1 hd hne (k Γ p l e s m args below meth c Z H locs ls C D)

theorem x_fcmp {x y : UInt32} {op : CmpOp} (hd : decode μ.2.1 pc = .ok (.fcmp op, 1)) (k : Xm ζ R μ (pc + 1) lv (.int (Op.cmpValue (FP.fcmp x y) op) :: st) cl sl n sh I Q) : Xm ζ R μ pc lv (.float y :: .float x :: st) cl sl n sh I Q := by
  intro Γ p l e s m args below meth c Z H locs ls C D
  exact lv_fcmp C.1 C.2.1 hd (k Γ p l e s m args below meth c Z H locs ls C D)

theorem x_fconst0  (hd : decode μ.2.1 pc = .ok (.fconst 0, 1)) (k : Xm ζ R μ (pc + 1) lv (.float FP.fconst0 :: st) cl sl n sh I Q) : Xm ζ R μ pc lv st cl sl n sh I Q := by
  intro Γ p l e s m args below meth c Z H locs ls C D
  exact lv_fconst0 C.1 C.2.1 hd (k Γ p l e s m args below meth c Z H locs ls C D)

theorem x_iconst {i : Int} {v : Int32} (hd : decode μ.2.1 pc = .ok (.iconst i, 1)) (hv : Int32.ofInt i = v) (k : Xm ζ R μ (pc + 1) lv (.int v :: st) cl sl n sh I Q) : Xm ζ R μ pc lv st cl sl n sh I Q := by
  intro Γ p l e s m args below meth c Z H locs ls C D
  exact lv_iconst C.1 C.2.1 hd hv (k Γ p l e s m args below meth c Z H locs ls C D)

theorem x_bipush {i : Int} {v : Int32} (hd : decode μ.2.1 pc = .ok (.bipush i, 2)) (hv : (Int8.ofInt i).toInt32 = v) (k : Xm ζ R μ (pc + 2) lv (.int v :: st) cl sl n sh I Q) : Xm ζ R μ pc lv st cl sl n sh I Q := by
  intro Γ p l e s m args below meth c Z H locs ls C D
  exact lv_bipush C.1 C.2.1 hd hv (k Γ p l e s m args below meth c Z H locs ls C D)

theorem x_sipush {i : Int} {v : Int32} (hd : decode μ.2.1 pc = .ok (.sipush i, 3)) (hv : (Int16.ofInt i).toInt32 = v) (k : Xm ζ R μ (pc + 3) lv (.int v :: st) cl sl n sh I Q) : Xm ζ R μ pc lv st cl sl n sh I Q := by
  intro Γ p l e s m args below meth c Z H locs ls C D
  exact lv_sipush C.1 C.2.1 hd hv (k Γ p l e s m args below meth c Z H locs ls C D)

theorem x_dup {v : Value} (hd : decode μ.2.1 pc = .ok (.dup, 1)) (hv : v.category = 1) (k : Xm ζ R μ (pc + 1) lv (v :: v :: st) cl sl n sh I Q) : Xm ζ R μ pc lv (v :: st) cl sl n sh I Q := by
  intro Γ p l e s m args below meth c Z H locs ls C D
  exact lv_dup C.1 C.2.1 hd (by rw [sm_V_cat]; exact hv) (k Γ p l e s m args below meth c Z H locs ls C D)

theorem x_pop {v : Value} (hd : decode μ.2.1 pc = .ok (.pop, 1)) (hv : v.category = 1) (k : Xm ζ R μ (pc + 1) lv st cl sl n sh I Q) : Xm ζ R μ pc lv (v :: st) cl sl n sh I Q := by
  intro Γ p l e s m args below meth c Z H locs ls C D
  exact lv_pop C.1 C.2.1 hd (by rw [sm_V_cat]; exact hv) (k Γ p l e s m args below meth c Z H locs ls C D)

theorem x_dup2 {v w : Value} (hd : decode μ.2.1 pc = .ok (.dup2, 1)) (hv : v.category = 1) (hw : w.category = 1) (k : Xm ζ R μ (pc + 1) lv (v :: w :: v :: w :: st) cl sl n sh I Q) : Xm ζ R μ pc lv (v :: w :: st) cl sl n sh I Q := by
  intro Γ p l e s m args below meth c Z H locs ls C D
  exact lv_dup2_11 C.1 C.2.1 hd (by rw [sm_V_cat]; exact hv) (by rw [sm_V_cat]; exact hw) (k Γ p l e s m args below meth c Z H locs ls C D)

theorem x_iload_n {j : Fin 4} {i : Nat} {x : Int32} (hd : decode μ.2.1 pc = .ok (.iload_n j, 1)) (hi : (j : Nat) = i) (hl : lv[i]? = some (some (.int x))) (k : Xm ζ R μ (pc + 1) lv (.int x :: st) cl sl n sh I Q) : Xm ζ R μ pc lv st cl sl n sh I Q := by
  intro Γ p l e s m args below meth c Z H locs ls C D
  exact lv_iload_n C.1 C.2.1 hd hi (D.2.2.at hl) (k Γ p l e s m args below meth c Z H locs ls C D)

theorem x_iload {i : Nat} {x : Int32} (hd : decode μ.2.1 pc = .ok (.iload i, 2)) (hl : lv[i]? = some (some (.int x))) (k : Xm ζ R μ (pc + 2) lv (.int x :: st) cl sl n sh I Q) : Xm ζ R μ pc lv st cl sl n sh I Q := by
  intro Γ p l e s m args below meth c Z H locs ls C D
  exact lv_iload C.1 C.2.1 hd (D.2.2.at hl) (k Γ p l e s m args below meth c Z H locs ls C D)

theorem x_aload_n {j : Fin 4} {i : Nat} {x : Nat} (hd : decode μ.2.1 pc = .ok (.aload_n j, 1)) (hi : (j : Nat) = i) (hl : lv[i]? = some (some (.ref x))) (k : Xm ζ R μ (pc + 1) lv (.ref x :: st) cl sl n sh I Q) : Xm ζ R μ pc lv st cl sl n sh I Q := by
  intro Γ p l e s m args below meth c Z H locs ls C D
  exact lv_aload_n C.1 C.2.1 hd hi (D.2.2.at hl) (k Γ p l e s m args below meth c Z H locs ls C D)

theorem x_aload {i : Nat} {x : Nat} (hd : decode μ.2.1 pc = .ok (.aload i, 2)) (hl : lv[i]? = some (some (.ref x))) (k : Xm ζ R μ (pc + 2) lv (.ref x :: st) cl sl n sh I Q) : Xm ζ R μ pc lv st cl sl n sh I Q := by
  intro Γ p l e s m args below meth c Z H locs ls C D
  exact lv_aload C.1 C.2.1 hd (D.2.2.at hl) (k Γ p l e s m args below meth c Z H locs ls C D)

theorem x_fload_n {j : Fin 4} {i : Nat} {x : UInt32} (hd : decode μ.2.1 pc = .ok (.fload_n j, 1)) (hi : (j : Nat) = i) (hl : lv[i]? = some (some (.float x))) (k : Xm ζ R μ (pc + 1) lv (.float x :: st) cl sl n sh I Q) : Xm ζ R μ pc lv st cl sl n sh I Q := by
  intro Γ p l e s m args below meth c Z H locs ls C D
  exact lv_fload_n C.1 C.2.1 hd hi (D.2.2.at hl) (k Γ p l e s m args below meth c Z H locs ls C D)

theorem x_istore_n {j : Fin 4} {i : Nat} {x : Int32} (hd : decode μ.2.1 pc = .ok (.istore_n j, 1)) (hi : (j : Nat) = i) (hn : i < μ.2.2.1) (k : Xm ζ R μ (pc + 1) (lv.set i (some (.int x))) st cl sl n sh I Q) : Xm ζ R μ pc lv (.int x :: st) cl sl n sh I Q := by
  intro Γ p l e s m args below meth c Z H locs ls C D
  exact lv_istore_n C.1 C.2.1 hd hi D.2.2.has hn rfl (fun ls' hl' => k Γ p l e s m args below meth c Z H locs ls' C ⟨D.1, D.2.1, D.2.2.set rfl hl'⟩)

theorem x_istore {i : Nat} {x : Int32} (hd : decode μ.2.1 pc = .ok (.istore i, 2)) (hn : i < μ.2.2.1) (k : Xm ζ R μ (pc + 2) (lv.set i (some (.int x))) st cl sl n sh I Q) : Xm ζ R μ pc lv (.int x :: st) cl sl n sh I Q := by
  intro Γ p l e s m args below meth c Z H locs ls C D
  exact lv_istore C.1 C.2.1 hd D.2.2.has hn rfl (fun ls' hl' => k Γ p l e s m args below meth c Z H locs ls' C ⟨D.1, D.2.1, D.2.2.set rfl hl'⟩)

theorem x_astore_n {j : Fin 4} {i : Nat} {x : Nat} (hd : decode μ.2.1 pc = .ok (.astore_n j, 1)) (hi : (j : Nat) = i) (hn : i < μ.2.2.1) (k : Xm ζ R μ (pc + 1) (lv.set i (some (.ref x))) st cl sl n sh I Q) : Xm ζ R μ pc lv (.ref x :: st) cl sl n sh I Q := by
  intro Γ p l e s m args below meth c Z H locs ls C D
  exact lv_astore_n C.1 C.2.1 hd hi D.2.2.has hn rfl (fun ls' hl' => k Γ p l e s m args below meth c Z H locs ls' C ⟨D.1, D.2.1, D.2.2.set rfl hl'⟩)

theorem x_astore {i : Nat} {x : Nat} (hd : decode μ.2.1 pc = .ok (.astore i, 2)) (hn : i < μ.2.2.1) (k : Xm ζ R μ (pc + 2) (lv.set i (some (.ref x))) st cl sl n sh I Q) : Xm ζ R μ pc lv (.ref x :: st) cl sl n sh I Q := by
  intro Γ p l e s m args below meth c Z H locs ls C D
  exact lv_astore C.1 C.2.1 hd D.2.2.has hn rfl (fun ls' hl' => k Γ p l e s m args below meth c Z H locs ls' C ⟨D.1, D.2.1, D.2.2.set rfl hl'⟩)

theorem x_fstore_n {j : Fin 4} {i : Nat} {x : UInt32} (hd : decode μ.2.1 pc = .ok (.fstore_n j, 1)) (hi : (j : Nat) = i) (hn : i < μ.2.2.1) (k : Xm ζ R μ (pc + 1) (lv.set i (some (.float x))) st cl sl n sh I Q) : Xm ζ R μ pc lv (.float x :: st) cl sl n sh I Q := by
  intro Γ p l e s m args below meth c Z H locs ls C D
  exact lv_fstore_n C.1 C.2.1 hd hi D.2.2.has hn rfl (fun ls' hl' => k Γ p l e s m args below meth c Z H locs ls' C ⟨D.1, D.2.1, D.2.2.set rfl hl'⟩)

theorem x_iinc {i : Nat} {d : Int} {x v : Int32} (hd : decode μ.2.1 pc = .ok (.iinc i d, 3)) (hl : lv[i]? = some (some (.int x))) (hv : x + Int32.ofInt d = v) (hn : i < μ.2.2.1) (k : Xm ζ R μ (pc + 3) (lv.set i (some (.int v))) st cl sl n sh I Q) : Xm ζ R μ pc lv st cl sl n sh I Q := by
  intro Γ p l e s m args below meth c Z H locs ls C D
  obtain ⟨q, hq⟩ := List.getElem?_of_mem (sm_A_mem (ad := Γ.2.1) hl)
  exact lv_iinc C.1 C.2.1 hd D.2.2.has hq hv hn rfl (fun ls' hl' => k Γ p l e s m args below meth c Z H locs ls' C ⟨D.1, D.2.1, D.2.2.set rfl hl'⟩)

theorem x_if_eq {x : Int32} {off : Int} {tgt : Nat} (hd : decode μ.2.1 pc = .ok (.ifCond .eq off, 3)) (ht : (pc : Int) + off = (tgt : Int)) (kt : x = 0 → Xm ζ R μ tgt lv st cl sl n sh I Q) (kf : ¬ x = 0 → Xm ζ R μ (pc + 3) lv st cl sl n sh I Q) : Xm ζ R μ pc lv (.int x :: st) cl sl n sh I Q := by
  intro Γ p l e s m args below meth c Z H locs ls C D
  exact lv_if_eq C.1 C.2.1 hd ht (fun h => kt h Γ p l e s m args below meth c Z H locs ls C D) (fun h => kf h Γ p l e s m args below meth c Z H locs ls C D)

theorem x_icmp_eq {x y : Int32} {off : Int} {tgt : Nat} (hd : decode μ.2.1 pc = .ok (.if_icmp .eq off, 3)) (ht : (pc : Int) + off = (tgt : Int)) (kt : x = y → Xm ζ R μ tgt lv st cl sl n sh I Q) (kf : ¬ x = y → Xm ζ R μ (pc + 3) lv st cl sl n sh I Q) : Xm ζ R μ pc lv (.int y :: .int x :: st) cl sl n sh I Q := by
  intro Γ p l e s m args below meth c Z H locs ls C D
  exact lv_icmp_eq C.1 C.2.1 hd ht (fun h => kt h Γ p l e s m args below meth c Z H locs ls C D) (fun h => kf h Γ p l e s m args below meth c Z H locs ls C D)

theorem x_if_ne {x : Int32} {off : Int} {tgt : Nat} (hd : decode μ.2.1 pc = .ok (.ifCond .ne off, 3)) (ht : (pc : Int) + off = (tgt : Int)) (kt : ¬ x = 0 → Xm ζ R μ tgt lv st cl sl n sh I Q) (kf : x = 0 → Xm ζ R μ (pc + 3) lv st cl sl n sh I Q) : Xm ζ R μ pc lv (.int x :: st) cl sl n sh I Q := by
  intro Γ p l e s m args below meth c Z H locs ls C D
  exact lv_if_ne C.1 C.2.1 hd ht (fun h => kt h Γ p l e s m args below meth c Z H locs ls C D) (fun h => kf h Γ p l e s m args below meth c Z H locs ls C D)

theorem x_icmp_ne {x y : Int32} {off : Int} {tgt : Nat} (hd : decode μ.2.1 pc = .ok (.if_icmp .ne off, 3)) (ht : (pc : Int) + off = (tgt : Int)) (kt : ¬ x = y → Xm ζ R μ tgt lv st cl sl n sh I Q) (kf : x = y → Xm ζ R μ (pc + 3) lv st cl sl n sh I Q) : Xm ζ R μ pc lv (.int y :: .int x :: st) cl sl n sh I Q := by
  intro Γ p l e s m args below meth c Z H locs ls C D
  exact lv_icmp_ne C.1 C.2.1 hd ht (fun h => kt h Γ p l e s m args below meth c Z H locs ls C D) (fun h => kf h Γ p l e s m args below meth c Z H locs ls C D)

theorem x_if_lt {x : Int32} {off : Int} {tgt : Nat} (hd : decode μ.2.1 pc = .ok (.ifCond .lt off, 3)) (ht : (pc : Int) + off = (tgt : Int)) (kt : x < 0 → Xm ζ R μ tgt lv st cl sl n sh I Q) (kf : ¬ x < 0 → Xm ζ R μ (pc + 3) lv st cl sl n sh I Q) : Xm ζ R μ pc lv (.int x :: st) cl sl n sh I Q := by
  intro Γ p l e s m args below meth c Z H locs ls C D
  exact lv_if_lt C.1 C.2.1 hd ht (fun h => kt h Γ p l e s m args below meth c Z H locs ls C D) (fun h => kf h Γ p l e s m args below meth c Z H locs ls C D)

theorem x_icmp_lt {x y : Int32} {off : Int} {tgt : Nat} (hd : decode μ.2.1 pc = .ok (.if_icmp .lt off, 3)) (ht : (pc : Int) + off = (tgt : Int)) (kt : x < y → Xm ζ R μ tgt lv st cl sl n sh I Q) (kf : ¬ x < y → Xm ζ R μ (pc + 3) lv st cl sl n sh I Q) : Xm ζ R μ pc lv (.int y :: .int x :: st) cl sl n sh I Q := by
  intro Γ p l e s m args below meth c Z H locs ls C D
  exact lv_icmp_lt C.1 C.2.1 hd ht (fun h => kt h Γ p l e s m args below meth c Z H locs ls C D) (fun h => kf h Γ p l e s m args below meth c Z H locs ls C D)

theorem x_if_ge {x : Int32} {off : Int} {tgt : Nat} (hd : decode μ.2.1 pc = .ok (.ifCond .ge off, 3)) (ht : (pc : Int) + off = (tgt : Int)) (kt : 0 ≤ x → Xm ζ R μ tgt lv st cl sl n sh I Q) (kf : ¬ 0 ≤ x → Xm ζ R μ (pc + 3) lv st cl sl n sh I Q) : Xm ζ R μ pc lv (.int x :: st) cl sl n sh I Q := by
  intro Γ p l e s m args below meth c Z H locs ls C D
  exact lv_if_ge C.1 C.2.1 hd ht (fun h => kt h Γ p l e s m args below meth c Z H locs ls C D) (fun h => kf h Γ p l e s m args below meth c Z H locs ls C D)

theorem x_icmp_ge {x y : Int32} {off : Int} {tgt : Nat} (hd : decode μ.2.1 pc = .ok (.if_icmp .ge off, 3)) (ht : (pc : Int) + off = (tgt : Int)) (kt : y ≤ x → Xm ζ R μ tgt lv st cl sl n sh I Q) (kf : ¬ y ≤ x → Xm ζ R μ (pc + 3) lv st cl sl n sh I Q) : Xm ζ R μ pc lv (.int y :: .int x :: st) cl sl n sh I Q := by
  intro Γ p l e s m args below meth c Z H locs ls C D
  exact lv_icmp_ge C.1 C.2.1 hd ht (fun h => kt h Γ p l e s m args below meth c Z H locs ls C D) (fun h => kf h Γ p l e s m args below meth c Z H locs ls C D)

theorem x_if_gt {x : Int32} {off : Int} {tgt : Nat} (hd : decode μ.2.1 pc = .ok (.ifCond .gt off, 3)) (ht : (pc : Int) + off = (tgt : Int)) (kt : 0 < x → Xm ζ R μ tgt lv st cl sl n sh I Q) (kf : ¬ 0 < x → Xm ζ R μ (pc + 3) lv st cl sl n sh I Q) : Xm ζ R μ pc lv (.int x :: st) cl sl n sh I Q := by
  intro Γ p l e s m args below meth c Z H locs ls C D
  exact lv_if_gt C.1 C.2.1 hd ht (fun h => kt h Γ p l e s m args below meth c Z H locs ls C D) (fun h => kf h Γ p l e s m args below meth c Z H locs ls C D)

theorem x_icmp_gt {x y : Int32} {off : Int} {tgt : Nat} (hd : decode μ.2.1 pc = .ok (.if_icmp .gt off, 3)) (ht : (pc : Int) + off = (tgt : Int)) (kt : y < x → Xm ζ R μ tgt lv st cl sl n sh I Q) (kf : ¬ y < x → Xm ζ R μ (pc + 3) lv st cl sl n sh I Q) : Xm ζ R μ pc lv (.int y :: .int x :: st) cl sl n sh I Q := by
  intro Γ p l e s m args below meth c Z H locs ls C D
  exact lv_icmp_gt C.1 C.2.1 hd ht (fun h => kt h Γ p l e s m args below meth c Z H locs ls C D) (fun h => kf h Γ p l e s m args below meth c Z H locs ls C D)

theorem x_if_le {x : Int32} {off : Int} {tgt : Nat} (hd : decode μ.2.1 pc = .ok (.ifCond .le off, 3)) (ht : (pc : Int) + off = (tgt : Int)) (kt : x ≤ 0 → Xm ζ R μ tgt lv st cl sl n sh I Q) (kf : ¬ x ≤ 0 → Xm ζ R μ (pc + 3) lv st cl sl n sh I Q) : Xm ζ R μ pc lv (.int x :: st) cl sl n sh I Q := by
  intro Γ p l e s m args below meth c Z H locs ls C D
  exact lv_if_le C.1 C.2.1 hd ht (fun h => kt h Γ p l e s m args below meth c Z H locs ls C D) (fun h => kf h Γ p l e s m args below meth c Z H locs ls C D)

theorem x_icmp_le {x y : Int32} {off : Int} {tgt : Nat} (hd : decode μ.2.1 pc = .ok (.if_icmp .le off, 3)) (ht : (pc : Int) + off = (tgt : Int)) (kt : x ≤ y → Xm ζ R μ tgt lv st cl sl n sh I Q) (kf : ¬ x ≤ y → Xm ζ R μ (pc + 3) lv st cl sl n sh I Q) : Xm ζ R μ pc lv (.int y :: .int x :: st) cl sl n sh I Q := by
  intro Γ p l e s m args below meth c Z H locs ls C D
  exact lv_icmp_le C.1 C.2.1 hd ht (fun h => kt h Γ p l e s m args below meth c Z H locs ls C D) (fun h => kf h Γ p l e s m args below meth c Z H locs ls C D)

theorem x_goto {off : Int} {tgt : Nat} (hd : decode μ.2.1 pc = .ok (.goto off, 3)) (ht : (pc : Int) + off = (tgt : Int)) (k : Xm ζ R μ tgt lv st cl sl n sh I Q) : Xm ζ R μ pc lv st cl sl n sh I Q := by
  intro Γ p l e s m args below meth c Z H locs ls C D
  exact lv_goto C.1 C.2.1 hd ht (k Γ p l e s m args below meth c Z H locs ls C D)

theorem x_tableOut {dflt lo hi : Int} {offs : Array Int} {len : Nat} {x : Int32} {tgt : Nat} (hd : decode μ.2.1 pc = .ok (.tableswitch dflt lo hi offs, len)) (h : x.toInt < lo ∨ hi < x.toInt) (ht : (pc : Int) + dflt = (tgt : Int)) (k : Xm ζ R μ tgt lv st cl sl n sh I Q) : Xm ζ R μ pc lv (.int x :: st) cl sl n sh I Q := by
  intro Γ p l e s m args below meth c Z H locs ls C D
  exact lv_tableOut C.1 C.2.1 hd h ht (k Γ p l e s m args below meth c Z H locs ls C D)

theorem x_tableIn {dflt lo hi : Int} {offs : Array Int} {len : Nat} {x : Int32} {off : Int} {tgt : Nat} (hd : decode μ.2.1 pc = .ok (.tableswitch dflt lo hi offs, len)) (h1 : ¬ x.toInt < lo) (h2 : ¬ hi < x.toInt) (ho : offs[(x.toInt - lo).toNat]? = some off) (ht : (pc : Int) + off = (tgt : Int)) (k : Xm ζ R μ tgt lv st cl sl n sh I Q) : Xm ζ R μ pc lv (.int x :: st) cl sl n sh I Q := by
  intro Γ p l e s m args below meth c Z H locs ls C D
  exact lv_tableIn C.1 C.2.1 hd h1 h2 ho ht (k Γ p l e s m args below meth c Z H locs ls C D)

theorem x_ldcf {idx : Nat} {v : UInt32} (hd : decode μ.2.1 pc = .ok (.ldc idx, 2)) (hw : Cond.constantFloat μ.1.cls idx v ∈ lw_good) (k : Xm ζ R μ (pc + 2) lv (.float v :: st) cl sl n sh I Q) : Xm ζ R μ pc lv st cl sl n sh I Q := by
  intro Γ p l e s m args below meth c Z H locs ls C D
  exact lv_ldcf C.1 C.2.1 C.2.2.2.1 (C.2.2.2.2.1 _ hw) hd (k Γ p l e s m args below meth c Z H locs ls C D)

theorem x_ldc {idx : Nat} {v : Int32} (hd : decode μ.2.1 pc = .ok (.ldc idx, 2)) (hw : Cond.constant μ.1.cls idx v ∈ lw_good) (k : Xm ζ R μ (pc + 2) lv (.int v :: st) cl sl n sh I Q) : Xm ζ R μ pc lv st cl sl n sh I Q := by
  intro Γ p l e s m args below meth c Z H locs ls C D
  exact lv_ldc C.1 C.2.1 C.2.2.2.1 (C.2.2.2.2.1 _ hw) hd (k Γ p l e s m args below meth c Z H locs ls C D)

theorem x_ldcw {idx : Nat} {v : Int32} (hd : decode μ.2.1 pc = .ok (.ldc_w idx, 3)) (hw : Cond.constant μ.1.cls idx v ∈ lw_good) (k : Xm ζ R μ (pc + 3) lv (.int v :: st) cl sl n sh I Q) : Xm ζ R μ pc lv st cl sl n sh I Q := by
  intro Γ p l e s m args below meth c Z H locs ls C D
  exact lv_ldcw C.1 C.2.1 C.2.2.2.1 (C.2.2.2.2.1 _ hw) hd (k Γ p l e s m args below meth c Z H locs ls C D)

theorem x_ret {r : Option Value} (hr : sm_R μ r pc) (hc : cl ≤ R.cells) (hs : sl ≤ R.slots) (hq : Q r n sh I) : Xm ζ R μ pc lv r.toList cl sl n sh I Q := by
  intro Γ p l e s m args below meth c Z H locs ls C D
  have h := C.2.2.2.2.2.2.2 r n sh I H locs cl sl pc ls hc hs hq D.2.1 D.1 hr
  cases r <;> exact h
/-! ===== fields ===== -/
/-- a class of the worlds, with its words -/
def sm_Cl (ci : Nat) (K : String) (T : u_T) (N : Nat) (ty : Nat → FieldType) : Prop := vwCl[ci]? = some (K, T, N) ∧ (sm_ft ci).length = N ∧ (∀ w ∈ u_ws K T N, w ∈ lw_good) ∧ (∀ k, k < N → parseFieldDescriptor (T k).2.2.1 = some (ty k)) ∧ (∀ a, a < N → ∀ b, b < N → a ≠ b → (T a).2.1 ≠ (T b).2.1)
/-- field k of class ci, as the pool of own has it at idx; its type; whether it's final -/
def sm_Fl (own : String) (idx ci k : Nat) (t : FieldType) (fin : Bool) : Prop := ∃ (K : String) (T : u_T) (N : Nat) (ty : Nat → FieldType), sm_Cl ci K T N ty ∧ k < N ∧ ty k = t ∧ (T k).2.2.2 = fin ∧ Cond.fieldLink own idx (T k).1 (T k).2.1 (T k).2.2.1 ∈ lw_good ∧ (fin = true → (T k).1 = own)
theorem sm_F_at {ad : Nat → Nat} {c k : Nat} {rs : List (Option Nat)} {f : Nat → Int32} (hk : k < (sm_ft c).length) : (sm_F ad c rs f)[k]? = some (if (sm_ft c).getD k false = true then .int (f k) else va_rf ((rs.getD k none).map ad)) := by
  unfold sm_F
  rw [List.getElem?_map, List.getElem?_range hk]
  rfl
theorem sm_F_len {ad : Nat → Nat} {c : Nat} {rs : List (Option Nat)} {f : Nat → Int32} : (sm_F ad c rs f).length = (sm_ft c).length := by simp [sm_F]
theorem sm_F_setI {ad : Nat → Nat} {c k : Nat} {rs : List (Option Nat)} {f : Nat → Int32} {v : Int32} (hi : (sm_ft c).getD k false = true) : (sm_F ad c rs f).set k (.int v) = sm_F ad c rs (upd f k v) := by
  apply List.ext_getElem?
  intro j
  by_cases hj : j < (sm_ft c).length
  · by_cases hjk : j = k
    · subst hjk
      rw [List.getElem?_set_self (by rw [sm_F_len]; exact hj), sm_F_at hj, if_pos hi]
      simp [upd]
    · rw [List.getElem?_set_ne (Ne.symm hjk), sm_F_at hj, sm_F_at hj]
      simp [upd, hjk]
  · rw [List.getElem?_eq_none (by rw [List.length_set, sm_F_len]; omega), List.getElem?_eq_none (by rw [sm_F_len]; omega)]
theorem sm_F_setR {ad : Nat → Nat} {c k b : Nat} {rs : List (Option Nat)} {f : Nat → Int32} (hi : (sm_ft c).getD k false = false) (hr : rs.length = (sm_ft c).length) : (sm_F ad c rs f).set k (.ref (ad b)) = sm_F ad c (rs.set k (some b)) f := by
  apply List.ext_getElem?
  intro j
  by_cases hj : j < (sm_ft c).length
  · by_cases hjk : j = k
    · subst hjk
      rw [List.getElem?_set_self (by rw [sm_F_len]; exact hj), sm_F_at hj, if_neg (by rw [hi]; decide), List.getD_eq_getElem?_getD, List.getElem?_set_self (by omega)]
      rfl
    · rw [List.getElem?_set_ne (Ne.symm hjk), sm_F_at hj, sm_F_at hj, List.getD_eq_getElem?_getD, List.getD_eq_getElem?_getD (l := rs.set k (some b)), List.getElem?_set_ne (Ne.symm hjk), List.getD_eq_getElem?_getD (l := rs)]
  · rw [List.getElem?_eq_none (by rw [List.length_set, sm_F_len]; omega), List.getElem?_eq_none (by rw [sm_F_len]; omega)]
theorem sm_one {D : va_G} {q : Nat × va_E} {H : Heap} (h : va_at D vwCl q H) : va_P D vwCl [q] H := by
  intro k x hx
  have hz : k < 1 := (List.getElem?_eq_some_iff.mp hx).1
  rw [show k = 0 by omega] at hx
  cases hx
  exact h
/-- behind a change of one cell -/
theorem sm_H.put {Γ : sm_G} {n a : Nat} {sh sh' : Nat → sm_S} {I I' : sm_I} {H H1 : Heap} (h : sm_H Γ n sh I H) (had : ∀ k, k < 1000000 → Γ.2.1 k = Γ.1 + k) (ha : a < n) (hz : H1.size = H.size) (ho : ∀ q, q ≠ Γ.2.1 a → H1[q]? = H[q]?) (hsh : ∀ b, b ≠ a → sh' b = sh b) (hI : ∀ b, b ≠ a → I' b = I b) (he : va_at Γ.2.2.1 vwCl (Γ.2.1 a, sm_E Γ.2.1 Γ.2.2.2.1 (sh' a) (I' a)) H1) : sm_H Γ n sh' I' H1 := by
  refine ⟨hz.trans h.1, h.2.1, fun b hb => ?_⟩
  by_cases hba : b = a
  · subst hba; exact he
  · rw [hsh b hba, hI b hba]
    refine (h.2.2 b hb).kept (ho _ ?_)
    have := h.2.1
    show Γ.2.1 b ≠ Γ.2.1 a
    rw [had b (by omega), had a (by omega)]
    omega
theorem sm_E_obj {ad : Nat → Nat} {g : Nat → ClassId} {q : sm_S} {f : Nat → Int32} {ci : Nat} {rs : List (Option Nat)} (h : q = (0, ci, rs)) : sm_E ad g q f = .inr (ci, sm_F ad ci rs f) := by subst h; rfl
theorem sm_E_arr {ad : Nat → Nat} {g : Nat → ClassId} {q : sm_S} {f : Nat → Int32} {t N : Nat} {rs : List (Option Nat)} (h : q = (t + 1, N, rs)) (ht : t < 3) : sm_E ad g q f = .inl (g t, N, .inl f) := by subst h; simp [sm_E, ht]
theorem sm_E_ref {ad : Nat → Nat} {g : Nat → ClassId} {q : sm_S} {f : Nat → Int32} {t N : Nat} {rs : List (Option Nat)} (h : q = (t + 1, N, rs)) (ht : 3 ≤ t) : sm_E ad g q f = .inl (g t, N, .inr (.inr (.inr (.inr (fun j => (rs.getD j none).map ad))))) := by subst h; simp [sm_E, Nat.not_lt.mpr ht]
theorem x_getI {idx ci k a : Nat} {t : FieldType} {fin : Bool} {rs : List (Option Nat)} (hd : decode μ.2.1 pc = .ok (.getfield idx, 3)) (hf : sm_Fl μ.1.cls idx ci k t fin) (ha : a < n) (hs : sh a = (0, ci, rs)) (hi : (sm_ft ci).getD k false = true) (kk : Xm ζ R μ (pc + 3) lv (.int (I a k) :: st) cl sl n sh I Q) : Xm ζ R μ pc lv (.ref a :: st) cl sl n sh I Q := by
  intro Γ p l e s m args below meth c Z H locs ls C D
  obtain ⟨K, T, N, ty, ⟨h1, h2, h3, h4, h5⟩, hk, h6, h7, h8, h9⟩ := hf
  have he := D.2.1.2.2 a ha
  rw [sm_E_obj hs] at he
  refine va_get (v := .int (I a k)) C.1 C.2.1 C.2.2.2.2.1 h3 C.2.2.2.1 C.2.2.2.2.2.2.1.2.1 (sm_one he) 0 rfl h1 k hk (C.2.2.2.2.1 _ h8) (fun _ h => h) ?_ hd (kk Γ p l e s m args below meth c Z H locs ls C D)
  rw [sm_F_at (by omega), if_pos hi]
theorem x_getR {idx ci k a b : Nat} {t : FieldType} {fin : Bool} {rs : List (Option Nat)} (hd : decode μ.2.1 pc = .ok (.getfield idx, 3)) (hf : sm_Fl μ.1.cls idx ci k t fin) (ha : a < n) (hs : sh a = (0, ci, rs)) (hi : (sm_ft ci).getD k false = false) (hb : rs.getD k none = some b) (kk : Xm ζ R μ (pc + 3) lv (.ref b :: st) cl sl n sh I Q) : Xm ζ R μ pc lv (.ref a :: st) cl sl n sh I Q := by
  intro Γ p l e s m args below meth c Z H locs ls C D
  obtain ⟨K, T, N, ty, ⟨h1, h2, h3, h4, h5⟩, hk, h6, h7, h8, h9⟩ := hf
  have he := D.2.1.2.2 a ha
  rw [sm_E_obj hs] at he
  refine va_get (v := .ref (Γ.2.1 b)) C.1 C.2.1 C.2.2.2.2.1 h3 C.2.2.2.1 C.2.2.2.2.2.2.1.2.1 (sm_one he) 0 rfl h1 k hk (C.2.2.2.2.1 _ h8) (fun _ h => h) ?_ hd (kk Γ p l e s m args below meth c Z H locs ls C D)
  rw [sm_F_at (by omega), if_neg (by rw [hi]; decide), hb]
  rfl
/-- putfield, any value: what the row gives, for the rules below -/
theorem sm_put {Γ : sm_G} {p : Program} {l : Launch} {e : Env} {s : State} {m : MethodId} {args : Array Value} {below : List Frame} {meth : Method} {c : Code} {Z : State → Prop} {H : Heap} {locs : List Loc} {ls : Array Slot} (C : sm_C ζ Γ R μ p l e s m args below meth c Z Q) (hS : va_S (fun q => Γ.1 ≤ q) s.heap H locs) (hH : sm_H Γ n sh I H)
    {idx ci k a : Nat} {t : FieldType} {fin : Bool} {rs : List (Option Nat)} {v : Value} {fs : List Value} {rest : List Value} (hd : decode μ.2.1 pc = .ok (.putfield idx, 3)) (hf : sm_Fl μ.1.cls idx ci k t fin) (hini : fin = true → μ.1.name = "<init>") (ha : a < n) (hs : sh a = (0, ci, rs)) (hn : narrow t v = v) (hfit : fits t v = true)
    {sh' : Nat → sm_S} {I' : sm_I} (hsh : ∀ b, b ≠ a → sh' b = sh b) (hI : ∀ b, b ≠ a → I' b = I b) (hE : sm_E Γ.2.1 Γ.2.2.2.1 (sh' a) (I' a) = .inr (ci, (sm_F Γ.2.1 ci rs (I a)).set k v))
    (kk : ∀ (H1 : Heap) (locs1 : List Loc), va_S (fun q => Γ.1 ≤ q) s.heap H1 locs1 → sm_H Γ n sh' I' H1 → W p l e R s m args below meth c H1 locs1 cl sl Z (F0 m (pc + 3) ls rest)) : W p l e R s m args below meth c H locs cl sl Z (F0 m pc ls (v :: .ref (Γ.2.1 a) :: rest)) := by
  obtain ⟨K, T, N, ty, ⟨h1, h2, h3, h4, h5⟩, hk, h6, h7, h8, h9⟩ := hf
  subst h6
  have hK := C.2.2.2.2.2.2.1
  have he := hH.2.2 a ha
  rw [sm_E_obj hs] at he
  have hts := C.2.2.2.2.1
  have hown := C.2.2.2.1
  have hap := va_apart (own := μ.1.cls) hts h3 ty h4 h5 hK.2.1 h1
  obtain ⟨r, g1, cell, q1, q2, q3, q4⟩ := he
  have hr : r = (K, T, N) := Option.some.inj (g1.symm.trans h1)
  subst hr
  obtain ⟨hSl, hfc, kC, hkC, hkind⟩ := hK.2.1.1 ci _ h1
  obtain ⟨cf, kf, fi, f, hi, hsl⟩ := hSl k hk
  have hlay := hts _ (h3 _ (u_in_lay hk))
  unfold u_lay at hlay
  have hst := (u_facts hfc hkC (u_lays hts h3 hk) hi).1
  have haA : Γ.1 ≤ Γ.2.1 a := by
    have := hH.2.1
    rw [hK.1 a (by omega)]; omega
  have key : ∀ H1 : Heap, H1[Γ.2.1 a]? = some (cell.setSlot f.slot v) → H1.size = H.size → (∀ q, q ≠ Γ.2.1 a → H1[q]? = H[q]?) → W p l e R s m args below meth c H1 (locs ++ [⟨Γ.2.1 a, f.slot⟩]) cl sl Z (F0 m (pc + 3) ls rest) := by
    intro H1 e1 e2 e3
    refine kk H1 _ (hS.put e2 e3 haA) (hH.put hK.1 ha e2 e3 hsh hI ?_)
    rw [hE]
    rw [hsl] at e1
    exact ⟨_, h1, t_OB.to (V := updV (vp_V (sm_F Γ.2.1 ci rs (I a))) k v) ⟨_, e1, q2, q3, t_set q4 hap hk v⟩ (fun j _ => vp_updV_set (by rw [sm_F_len]; omega) v j)⟩
  cases hfin : fin with
  | false =>
    rw [hfin] at h7
    rw [if_neg (by rw [h7]; decide)] at hlay
    have h10 := u_store hfc hkC hkind hlay hi (h4 k hk) hn hfit
    exact W.putK C.1 C.2.1 (f := f) ⟨hown, hts _ h8, ⟨_, _, _, hi⟩, hst⟩ (by rw [q2]; exact h10) q1 q3 (by rw [hsl]; exact k2_hasslot (q4 k hk)) rfl rfl hd key
  | true =>
    rw [hfin] at h7
    rw [if_pos h7] at hlay
    have hcf : m.cls = cf := by
      obtain ⟨_, _, c', _, _, _, -, -, hf', -, -, -, hown2, -⟩ := Cond.laysFinal_spec hlay
      have e1 : c' = cf := by have := hi.symm.trans hf'; simp at this; exact this.1.symm
      rw [h9 hfin] at hown2
      rw [← e1]; exact Option.some.inj (hown.symm.trans hown2)
    have h10 := u_fits hfc hkC hkind (Or.inr hlay) hi (h4 k hk) hn hfit
    exact W.putFinK C.1 C.2.1 hown (hts _ h8) hi hst hcf (C.2.2.2.2.2.1.trans (hini hfin)) (by rw [q2]; exact h10) q1 q3 (by rw [hsl]; exact k2_hasslot (q4 k hk)) rfl rfl hd key
theorem x_putI {idx ci k a : Nat} {t : FieldType} {fin : Bool} {rs : List (Option Nat)} {v : Int32} (hd : decode μ.2.1 pc = .ok (.putfield idx, 3)) (hf : sm_Fl μ.1.cls idx ci k t fin) (hini : fin = true → μ.1.name = "<init>") (ha : a < n) (hs : sh a = (0, ci, rs)) (hi : (sm_ft ci).getD k false = true) (hn : narrow t (.int v) = .int v) (hfit : fits t (.int v) = true) (kk : Xm ζ R μ (pc + 3) lv st cl sl n sh (up2 I a k v) Q) : Xm ζ R μ pc lv (.int v :: .ref a :: st) cl sl n sh I Q := by
  intro Γ p l e s m args below meth c Z H locs ls C D
  refine sm_put C D.1 D.2.1 (v := .int v) (fs := []) hd hf hini ha hs hn hfit (sh' := sh) (I' := up2 I a k v) (fun _ _ => rfl) (fun b hb => up2_ne hb) ?_ (fun H1 locs1 hS1 hH1 => kk Γ p l e s m args below meth c Z H1 locs1 ls C ⟨hS1, hH1, D.2.2⟩)
  rw [sm_E_obj hs, up2_row, sm_F_setI hi]
theorem x_putR {idx ci k a b : Nat} {t : FieldType} {fin : Bool} {rs : List (Option Nat)} (hd : decode μ.2.1 pc = .ok (.putfield idx, 3)) (hf : sm_Fl μ.1.cls idx ci k t fin) (hini : fin = true → μ.1.name = "<init>") (ha : a < n) (hs : sh a = (0, ci, rs)) (hi : (sm_ft ci).getD k false = false) (hl : rs.length = (sm_ft ci).length) (hn : ∀ x : Nat, narrow t (.ref x) = .ref x) (hfit : ∀ x : Nat, fits t (.ref x) = true) (kk : Xm ζ R μ (pc + 3) lv st cl sl n (va_up sh a (0, ci, rs.set k (some b))) I Q) : Xm ζ R μ pc lv (.ref b :: .ref a :: st) cl sl n sh I Q := by
  intro Γ p l e s m args below meth c Z H locs ls C D
  refine sm_put C D.1 D.2.1 (v := .ref (Γ.2.1 b)) (fs := []) hd hf hini ha hs (hn _) (hfit _) (sh' := va_up sh a (0, ci, rs.set k (some b))) (I' := I) (fun b hb => by simp [va_up, hb]) (fun b hb => rfl) ?_ (fun H1 locs1 hS1 hH1 => kk Γ p l e s m args below meth c Z H1 locs1 ls C ⟨hS1, hH1, D.2.2⟩)
  rw [show va_up sh a (0, ci, rs.set k (some b)) a = (0, ci, rs.set k (some b)) by simp [va_up], sm_E_obj rfl, sm_F_setR hi hl]
/-! ===== arrays ===== -/
theorem sm_ty_at {Γ : sm_G} {t : Nat} (ht : t < 6) : (sm_tys Γ.2.2.2.1)[t]? = some (Γ.2.2.2.1 t, sm_ty t) := by
  match t, ht with
  | 0, _ => rfl
  | 1, _ => rfl
  | 2, _ => rfl
  | 3, _ => rfl
  | 4, _ => rfl
  | 5, _ => rfl
theorem x_iald {a N : Nat} {i : Int32} {rs : List (Option Nat)} (hd : decode μ.2.1 pc = .ok (.iaload, 1)) (ha : a < n) (hs : sh a = (1, N, rs)) (hin : vp_in i N) (kk : Xm ζ R μ (pc + 1) lv (.int (I a i.toNatClampNeg) :: st) cl sl n sh I Q) : Xm ζ R μ pc lv (.int i :: .ref a :: st) cl sl n sh I Q := by
  intro Γ p l e s m args below meth c Z H locs ls C D
  have he := D.2.1.2.2 a ha
  rw [sm_E_arr (t := 0) hs (by decide)] at he
  exact va_iald C.1 C.2.1 C.2.2.2.2.2.2.1.2.1 (sm_one he) 0 0 rfl rfl hin hd (kk Γ p l e s m args below meth c Z H locs ls C D)
theorem x_zald {a N : Nat} {i : Int32} {rs : List (Option Nat)} (hd : decode μ.2.1 pc = .ok (.baload, 1)) (ha : a < n) (hs : sh a = (2, N, rs)) (hin : vp_in i N) (kk : Xm ζ R μ (pc + 1) lv (.int (I a i.toNatClampNeg) :: st) cl sl n sh I Q) : Xm ζ R μ pc lv (.int i :: .ref a :: st) cl sl n sh I Q := by
  intro Γ p l e s m args below meth c Z H locs ls C D
  have he := D.2.1.2.2 a ha
  rw [sm_E_arr (t := 1) hs (by decide)] at he
  exact va_zald C.1 C.2.1 C.2.2.2.2.2.2.1.2.1 (sm_one he) 0 1 rfl rfl hin hd (kk Γ p l e s m args below meth c Z H locs ls C D)
theorem x_bald {a N : Nat} {i : Int32} {rs : List (Option Nat)} (hd : decode μ.2.1 pc = .ok (.baload, 1)) (ha : a < n) (hs : sh a = (3, N, rs)) (hin : vp_in i N) (kk : Xm ζ R μ (pc + 1) lv (.int (I a i.toNatClampNeg) :: st) cl sl n sh I Q) : Xm ζ R μ pc lv (.int i :: .ref a :: st) cl sl n sh I Q := by
  intro Γ p l e s m args below meth c Z H locs ls C D
  have he := D.2.1.2.2 a ha
  rw [sm_E_arr (t := 2) hs (by decide)] at he
  exact va_bald C.1 C.2.1 C.2.2.2.2.2.2.1.2.1 (sm_one he) 0 2 rfl rfl hin hd (kk Γ p l e s m args below meth c Z H locs ls C D)
theorem x_aald {a N t b : Nat} {i : Int32} {rs : List (Option Nat)} (hd : decode μ.2.1 pc = .ok (.aaload, 1)) (ha : a < n) (hs : sh a = (t + 1, N, rs)) (ht : 3 ≤ t ∧ t < 6) (hin : vp_in i N) (hb : rs.getD i.toNatClampNeg none = some b) (kk : Xm ζ R μ (pc + 1) lv (.ref b :: st) cl sl n sh I Q) : Xm ζ R μ pc lv (.int i :: .ref a :: st) cl sl n sh I Q := by
  intro Γ p l e s m args below meth c Z H locs ls C D
  have he := D.2.1.2.2 a ha
  rw [sm_E_ref hs ht.1] at he
  have hty : ∃ K, sm_ty t = .object K := by
    obtain ⟨h3, h6⟩ := ht
    rcases (show t = 3 ∨ t = 4 ∨ t = 5 by omega) with rfl | rfl | rfl <;> exact ⟨_, rfl⟩
  obtain ⟨K, hK⟩ := hty
  have hk := kk Γ p l e s m args below meth c Z H locs ls C D
  refine va_aldq (C := K) C.1 C.2.1 C.2.2.2.2.2.2.1.2.1 (sm_one he) 0 t rfl (by rw [sm_ty_at ht.2, hK]) hin hd ?_
  rw [hb]
  exact hk
theorem x_alen {a N t : Nat} {rs : List (Option Nat)} (hd : decode μ.2.1 pc = .ok (.arraylength, 1)) (ha : a < n) (hs : sh a = (t + 1, N, rs)) (ht : t < 3) (kk : Xm ζ R μ (pc + 1) lv (.int (Int32.ofNat N) :: st) cl sl n sh I Q) : Xm ζ R μ pc lv (.ref a :: st) cl sl n sh I Q := by
  intro Γ p l e s m args below meth c Z H locs ls C D
  have he := D.2.1.2.2 a ha
  rw [sm_E_arr hs ht] at he
  exact va_alen C.1 C.2.1 C.2.2.2.2.2.2.1.2.1 (sm_one he) 0 t rfl (sm_ty_at (by omega)) rfl hd (kk Γ p l e s m args below meth c Z H locs ls C D)
theorem sm_base {Γ : sm_G} (had : ∀ k, k < 1000000 → Γ.2.1 k = Γ.1 + k) {H : Heap} (hH : sm_H Γ n sh I H) {a : Nat} (ha : a < n) : Γ.1 ≤ Γ.2.1 a := by
  have := hH.2.1
  rw [had a (by omega)]; omega
theorem sm_row {cA : ClassId} {N k : Nat} {f : Nat → Int32} {v : Int32} : (arrV cA N (fun j => .int (f j))).setSlot k (.int v) = arrV cA N (fun j => .int (upd f k v j)) := by
  rw [arrV_store]
  congr 1
  funext q
  by_cases hq : q = k
  · subst hq; simp [updV, upd]
  · simp [updV, upd, hq]
theorem x_iast {a N : Nat} {i v : Int32} {rs : List (Option Nat)} (hd : decode μ.2.1 pc = .ok (.iastore, 1)) (ha : a < n) (hs : sh a = (1, N, rs)) (hin : vp_in i N) (kk : Xm ζ R μ (pc + 1) lv st cl sl n sh (up2 I a i.toNatClampNeg v) Q) : Xm ζ R μ pc lv (.int v :: .int i :: .ref a :: st) cl sl n sh I Q := by
  intro Γ p l e s m args below meth c Z H locs ls C D
  have hK := C.2.2.2.2.2.2.1
  have he := D.2.1.2.2 a ha
  rw [sm_E_arr (t := 0) hs (by decide)] at he
  refine W.iast C.1 C.2.1 he ((hK.2.1.2 0 _ rfl).1 N (fun j => .int (I a j))) (fun q => by cases q) (by show ¬ (i < 0 ∨ (arrV _ _ _).slots.size ≤ _); rw [arrV_size]; exact hin) rfl rfl hd fun H1 e1 z oq => ?_
  refine kk Γ p l e s m args below meth c Z H1 _ ls C ⟨D.1.put z oq (sm_base hK.1 D.2.1 ha), D.2.1.put hK.1 ha z oq (fun _ _ => rfl) (fun b hb => up2_ne hb) ?_, D.2.2⟩
  rw [sm_E_arr (t := 0) hs (by decide), up2_row]
  exact e1.trans (congrArg some sm_row)
theorem x_bast {a N : Nat} {i v w : Int32} {rs : List (Option Nat)} (hd : decode μ.2.1 pc = .ok (.bastore, 1)) (ha : a < n) (hs : sh a = (3, N, rs)) (hin : vp_in i N) (hw : narrow .byte (.int v) = .int w) (kk : Xm ζ R μ (pc + 1) lv st cl sl n sh (up2 I a i.toNatClampNeg w) Q) : Xm ζ R μ pc lv (.int v :: .int i :: .ref a :: st) cl sl n sh I Q := by
  intro Γ p l e s m args below meth c Z H locs ls C D
  have hK := C.2.2.2.2.2.2.1
  have he := D.2.1.2.2 a ha
  rw [sm_E_arr (t := 2) hs (by decide)] at he
  refine W.bast C.1 C.2.1 he ((hK.2.1.2 2 _ rfl).1 N (fun j => .int (I a j))) (fun q => by cases q) (by show ¬ (i < 0 ∨ (arrV _ _ _).slots.size ≤ _); rw [arrV_size]; exact hin) rfl rfl hd fun H1 e1 z oq => ?_
  rw [hw] at e1
  refine kk Γ p l e s m args below meth c Z H1 _ ls C ⟨D.1.put z oq (sm_base hK.1 D.2.1 ha), D.2.1.put hK.1 ha z oq (fun _ _ => rfl) (fun b hb => up2_ne hb) ?_, D.2.2⟩
  rw [sm_E_arr (t := 2) hs (by decide), up2_row]
  exact e1.trans (congrArg some sm_row)
theorem x_zast {a N : Nat} {i v w : Int32} {rs : List (Option Nat)} (hd : decode μ.2.1 pc = .ok (.bastore, 1)) (ha : a < n) (hs : sh a = (2, N, rs)) (hin : vp_in i N) (hw : narrow .boolean (.int v) = .int w) (kk : Xm ζ R μ (pc + 1) lv st cl sl n sh (up2 I a i.toNatClampNeg w) Q) : Xm ζ R μ pc lv (.int v :: .int i :: .ref a :: st) cl sl n sh I Q := by
  intro Γ p l e s m args below meth c Z H locs ls C D
  have hK := C.2.2.2.2.2.2.1
  have he := D.2.1.2.2 a ha
  rw [sm_E_arr (t := 1) hs (by decide)] at he
  refine W.zast C.1 C.2.1 he ((hK.2.1.2 1 _ rfl).1 N (fun j => .int (I a j))) (fun q => by cases q) (by show ¬ (i < 0 ∨ (arrV _ _ _).slots.size ≤ _); rw [arrV_size]; exact hin) rfl rfl hd fun H1 e1 z oq => ?_
  rw [hw] at e1
  refine kk Γ p l e s m args below meth c Z H1 _ ls C ⟨D.1.put z oq (sm_base hK.1 D.2.1 ha), D.2.1.put hK.1 ha z oq (fun _ _ => rfl) (fun b hb => up2_ne hb) ?_, D.2.2⟩
  rw [sm_E_arr (t := 1) hs (by decide), up2_row]
  exact e1.trans (congrArg some sm_row)
/-- a reference into an array of references (constructors alone do that) -/
theorem x_aast {a b N t ci : Nat} {i : Int32} {rs qs : List (Option Nat)} {K : vw_C} (hd : decode μ.2.1 pc = .ok (.aastore, 1)) (ha : a < n) (hs : sh a = (t + 1, N, rs)) (ht : 3 ≤ t ∧ t < 6) (hb : b < n) (hsb : sh b = (0, ci, qs)) (hc : vwCl[ci]? = some K) (hty : sm_ty t = .object K.1) (hin : vp_in i N) (hl : rs.length = N) (kk : Xm ζ R μ (pc + 1) lv st cl sl n (va_up sh a (t + 1, N, rs.set i.toNatClampNeg (some b))) I Q) : Xm ζ R μ pc lv (.ref b :: .int i :: .ref a :: st) cl sl n sh I Q := by
  intro Γ p l e s m args below meth c Z H locs ls C D
  have hK := C.2.2.2.2.2.2.1
  have he := D.2.1.2.2 a ha
  rw [sm_E_ref hs ht.1] at he
  have hv := D.2.1.2.2 b hb
  rw [sm_E_obj hsb] at hv
  have hlt : i.toNatClampNeg < N := Nat.not_le.mp fun q => hin (Or.inr q)
  have h0 : ¬ i < 0 := fun q => hin (Or.inl q)
  obtain ⟨r', hr', cellV, g1, g2, g3, -⟩ := hv
  have hcls := (hK.2.1.1 ci K hc).2
  have hRA := (hK.2.1.2 t _ (sm_ty_at ht.2)).2
  dsimp only at hRA
  rw [hty] at hRA
  obtain ⟨kA, comp, k1, k2, k3, -⟩ := hRA
  have hcomp : comp = Γ.2.2.1.1 ci := Option.some.inj (k3.symm.trans hcls.1)
  subst hcomp
  obtain ⟨kC, hkC, -⟩ := hcls.2
  refine W.aast C.1 C.2.1 he (fun q h => by cases h) (fun h => by cases h) k1 k2 rfl hkC ⟨h0, by show _ < (arrV _ _ _).slots.size; rw [arrV_size]; exact hlt⟩ g1 (fun q h => by rw [g3] at h; cases h) (by rw [g2]; exact hkC) (by rw [g2]; exact va_assign hcls) rfl rfl hd fun H1 e1 z oq => ?_
  refine kk Γ p l e s m args below meth c Z H1 _ ls C ⟨D.1.put z oq (sm_base hK.1 D.2.1 ha), D.2.1.put hK.1 ha z oq (fun b hb => by simp [va_up, hb]) (fun b hb => rfl) ?_, D.2.2⟩
  rw [show va_up sh a (t + 1, N, rs.set i.toNatClampNeg (some b)) a = (t + 1, N, rs.set i.toNatClampNeg (some b)) by simp [va_up], sm_E_ref rfl ht.1]
  refine e1.trans (congrArg some ?_)
  show (arrV _ _ _).setSlot _ _ = vp_cell _ _
  rw [vp_cell_q, arrV_store]
  congr 1
  funext q
  by_cases hq : q = i.toNatClampNeg
  · subst hq
    simp [updV, va_rf, List.getD_eq_getElem?_getD, hl, hlt]
  · simp [updV, hq, List.getD_eq_getElem?_getD, List.getElem?_set_ne (Ne.symm hq)]
/-! ===== new cells ===== -/
theorem sm_H.push {Γ : sm_G} {q : sm_S} {f : Nat → Int32} {H H1 : Heap} (h : sm_H Γ n sh I H) (had : ∀ k, k < 1000000 → Γ.2.1 k = Γ.1 + k) (hn : n < 1000000) (hz : H1.size = H.size + 1) (ho : ∀ q, q < H.size → H1[q]? = H[q]?) (he : va_at Γ.2.2.1 vwCl (H.size, sm_E Γ.2.1 Γ.2.2.2.1 q f) H1) : sm_H Γ (n + 1) (va_up sh n q) (va_up I n f) H1 := by
  refine ⟨by rw [hz, h.1]; omega, by omega, fun b hb => ?_⟩
  by_cases hbn : b = n
  · subst hbn
    rw [show va_up sh b q b = q by simp [va_up], show va_up I b f b = f by simp [va_up], had b hn, ← h.1]
    exact he
  · rw [show va_up sh n q b = sh b by simp [va_up, hbn], show va_up I n f b = I b by simp [va_up, hbn]]
    exact (h.2.2 b (by omega)).kept (ho _ ((h.2.2 b (by omega)).lt))
theorem sm_S_push {Γ : sm_G} {s : State} {H H1 : Heap} {locs : List Loc} (hS : va_S (fun q => Γ.1 ≤ q) s.heap H locs) (hz : H1.size = H.size + 1) (ho : ∀ q, q < H.size → H1[q]? = H[q]?) : va_S (fun q => Γ.1 ≤ q) s.heap H1 locs :=
  ⟨Nat.le_trans hS.1 (by omega), fun x h1 h2 => (ho x (Nat.lt_of_lt_of_le h1 hS.1)).trans (hS.2.1 x h1 h2), hS.2.2⟩
theorem sm_new {Γ : sm_G} {H : Heap} (h : sm_H Γ n sh I H) (had : ∀ k, k < 1000000 → Γ.2.1 k = Γ.1 + k) (hn : n < 1000000) : Γ.2.1 n = H.size := by rw [had n hn, h.1]
theorem x_newa {atype : ArrayType} {t N : Nat} {v : Int32} (hd : decode μ.2.1 pc = .ok (.newarray atype, 2)) (ht : t < 3) (hty : newarray.typeOf atype = sm_ty t) (hdf : defaultValue (sm_ty t) = .int 0) (hw : Cond.arrayClass (newarray.typeOf atype) ∈ lw_good) (hv : ¬ v < 0) (hN : v.toNatClampNeg = N) (hby : N * componentBytes (newarray.typeOf atype) ≤ 536870912) (hc : cl + 1 ≤ R.cells) (hsl : sl + N ≤ R.slots) (hn : n < 1000000)
    (kk : Xm ζ R μ (pc + 2) lv (.ref n :: st) (cl + 1) (sl + N) (n + 1) (va_up sh n (t + 1, N, [])) (va_up I n (fun _ => 0)) Q) : Xm ζ R μ pc lv (.int v :: st) cl sl n sh I Q := by
  intro Γ p l e s m args below meth c Z H locs ls C D
  have hK := C.2.2.2.2.2.2.1
  refine va_newaK C.1 C.2.1 (C.2.2.2.2.1 _ hw) rfl hd rfl hv hN hby hc hsl rfl fun H1 cA e1 z1 o1 hAr hNm => ?_
  have hk := kk Γ p l e s m args below meth c Z H1 locs ls C ⟨sm_S_push D.1 z1 o1, D.2.1.push hK.1 hn z1 o1 ?_, D.2.2⟩
  · rw [← sm_new D.2.1 hK.1 hn]
    exact hk
  · rw [sm_E_arr rfl ht]
    have hcA : cA = Γ.2.2.2.1 t := by
      have h1 := (hK.2.1.2 t _ (sm_ty_at (by omega))).2
      rw [hty] at hNm
      match t, ht with
      | 0, _ => exact Option.some.inj (hNm.symm.trans h1)
      | 1, _ => exact Option.some.inj (hNm.symm.trans h1)
      | 2, _ => exact Option.some.inj (hNm.symm.trans h1)
    subst hcA
    rw [hty, hdf] at e1
    exact e1
theorem x_newq {idx t N : Nat} {K : String} {v : Int32} (hd : decode μ.2.1 pc = .ok (.anewarray idx, 3)) (ht : 3 ≤ t ∧ t < 6) (hty : sm_ty t = .object K) (hw : Cond.classLink μ.1.cls idx K ∈ lw_good) (hv : ¬ v < 0) (hN : v.toNatClampNeg = N) (hby : N * 4 ≤ 536870912) (hc : cl + 1 ≤ R.cells) (hsl : sl + N ≤ R.slots) (hn : n < 1000000)
    (kk : Xm ζ R μ (pc + 3) lv (.ref n :: st) (cl + 1) (sl + N) (n + 1) (va_up sh n (t + 1, N, List.replicate N none)) (va_up I n (fun _ => 0)) Q) : Xm ζ R μ pc lv (.int v :: st) cl sl n sh I Q := by
  intro Γ p l e s m args below meth c Z H locs ls C D
  have hK := C.2.2.2.2.2.2.1
  have hAO : va_AO K s := by
    obtain ⟨a1, a2, a3, -, -⟩ := hK.2.2.1
    obtain ⟨h3, h6⟩ := ht
    rcases (show t = 3 ∨ t = 4 ∨ t = 5 by omega) with rfl | rfl | rfl <;> (cases hty; assumption)
  subst hN
  refine W.anew C.1 C.2.1 C.2.2.2.1 (C.2.2.2.2.1 _ hw) (va_AO.use hAO) rfl hd rfl hv hby hc hsl fun cA kA comp f1 f2 f3 f4 => ?_
  generalize hH1 : H.push ({ cls := cA, slots := Array.replicate v.toNatClampNeg .null, vm := .none } : Cell) = H1
  have z1 : H1.size = H.size + 1 := by rw [← hH1, Array.size_push]
  have e1 : H1[H.size]? = some (arrV cA v.toNatClampNeg (fun _ => .null)) := by rw [← hH1, Array.getElem?_push_size, ← arrV_new]
  have o1 : ∀ q : Nat, q < H.size → H1[q]? = H[q]? := fun q hq => by rw [← hH1, Array.getElem?_push, if_neg (Nat.ne_of_lt hq)]
  have hk := kk Γ p l e s m args below meth c Z H1 locs ls C ⟨sm_S_push D.1 z1 o1, D.2.1.push hK.1 hn z1 o1 ?_, D.2.2⟩
  · rw [← sm_new D.2.1 hK.1 hn]
    exact hk
  · rw [sm_E_ref rfl ht.1]
    have hcA : cA = Γ.2.2.2.1 t := by
      have h1 := (hK.2.1.2 t _ (sm_ty_at ht.2)).2
      dsimp only at h1
      rw [hty] at h1
      obtain ⟨kA', comp', -, -, -, h9⟩ := h1
      exact Option.some.inj (f1.symm.trans h9)
    subst hcA
    show H1[H.size]? = some (vp_cell _ _)
    rw [vp_cell_q, e1]
    congr 2
    funext j
    rw [List.getD_eq_getElem?_getD]
    by_cases hj : j < v.toNatClampNeg
    · rw [List.getElem?_replicate, if_pos hj]; rfl
    · rw [List.getElem?_replicate, if_neg hj]; rfl
theorem x_new {idx ci N : Nat} {K : String} {T : u_T} {ty : Nat → FieldType} (hd : decode μ.2.1 pc = .ok (.new idx, 3)) (hcl : sm_Cl ci K T N ty) (hdf : ∀ j, j < N → defaultValue (ty j) = if (sm_ft ci).getD j false = true then .int 0 else .null) (hw : Cond.classLink μ.1.cls idx K ∈ lw_good) (hw2 : Cond.instantiable K N ∈ lw_good) (hw3 : Cond.initialized K ∈ lw_good) (hc : cl + 1 ≤ R.cells) (hsl : sl + N ≤ R.slots) (hn : n < 1000000)
    (kk : Xm ζ R μ (pc + 3) lv (.ref n :: st) (cl + 1) (sl + N) (n + 1) (va_up sh n (0, ci, List.replicate N none)) (va_up I n (fun _ => 0)) Q) : Xm ζ R μ pc lv st cl sl n sh I Q := by
  intro Γ p l e s m args below meth c Z H locs ls C D
  have hK := C.2.2.2.2.2.2.1
  obtain ⟨h1, h2, h3, h4, h5⟩ := hcl
  have hKn := hK.2.1.1 ci _ h1
  refine W.newcK C.1 C.2.1 C.2.2.2.1 (C.2.2.2.2.1 _ hw) (C.2.2.2.2.1 _ hw2) (C.2.2.2.2.1 _ hw3) rfl hd hc hsl hKn.2.1 rfl fun H1 kC hkC e1 z1 o1 => ?_
  have hk := kk Γ p l e s m args below meth c Z H1 locs ls C ⟨sm_S_push D.1 z1 o1, D.2.1.push hK.1 hn z1 o1 ?_, D.2.2⟩
  · rw [← sm_new D.2.1 hK.1 hn]
    exact hk
  · rw [sm_E_obj rfl]
    refine ⟨_, h1, (u_born ty C.2.2.2.2.1 h3 hKn hkC e1 h4).to (fun j hj => ?_)⟩
    rw [hdf j hj]
    have hA := sm_F_at (ad := Γ.2.1) (rs := List.replicate N none) (f := fun _ => 0) (c := ci) (k := j) (by omega)
    show _ = (sm_F Γ.2.1 ci (List.replicate N none) fun _ => 0).getD j Value.null
    rw [List.getD_eq_getElem?_getD (l := sm_F Γ.2.1 ci (List.replicate N none) fun _ => 0), hA]
    by_cases hi : (sm_ft ci).getD j false = true
    · rw [if_pos hi, if_pos hi]; rfl
    · rw [if_neg hi, if_neg hi, List.getD_eq_getElem?_getD, List.getElem?_replicate, if_pos hj]; rfl
theorem x_objInit {idx a : Nat} (hd : decode μ.2.1 pc = .ok (.invokespecial idx, 3)) (hw : Cond.methodLink μ.1.cls idx objectInit ∈ lw_good) (hw2 : Cond.instanceMethod objectInit ∈ lw_good) (hw3 : Cond.code objectInit ⟨#[0xb1]⟩ 1 none ∈ lw_good) (hf : 1 ≤ R.frames) (hlo : (st.map fun v => v.category).sum + 12 ≤ R.locals) (kk : Xm ζ R μ (pc + 3) lv st cl sl n sh I Q) : Xm ζ R μ pc lv (.ref a :: st) cl sl n sh I Q := by
  intro Γ p l e s m args below meth c Z H locs ls C D
  have hcat : ((st.map (sm_V Γ.2.1)).map fun v => v.category) = st.map fun v => v.category := by
    rw [List.map_map]
    exact List.map_congr_left fun v _ => sm_V_cat _ v
  refine W.objInit C.1 C.2.1 C.2.2.2.1 (C.2.2.2.2.1 _ hw) (C.2.2.2.2.1 _ hw2) (C.2.2.2.2.1 _ hw3) rfl (by rw [C.2.2.1]; exact D.2.2.1) rfl hd hf ?_ (kk Γ p l e s m args below meth c Z H locs ls C D)
  rw [hcat]
  show 2 * 0 + _ + 12 ≤ _
  omega
/-! ===== calls ===== -/
theorem sm_call {Γ : sm_G} {p : Program} {l : Launch} {e : Env} {s : State} {m : MethodId} {args : Array Value} {below : List Frame} {meth : Method} {c : Code} {Z : State → Prop} {H : Heap} {locs : List Loc} {ls : Array Slot} {mc ms : Nat} {st0 rest : List Value} {a : Array Value} {Q' : sm_Qt}
    (hr : va_Run p l e R s m args below meth c H locs cl sl mc ms (F0 m pc ls st0) rest (sm_Qc Γ Q' a) (fun q => Γ.1 ≤ q)) (hS : va_S (fun q => Γ.1 ≤ q) s.heap H locs)
    (kk : ∀ (r : Option Value) (n' : Nat) (sh' : Nat → sm_S) (I' : sm_I) (H1 : Heap) (locs1 : List Loc), Q' r n' sh' I' → sm_H Γ n' sh' I' H1 → va_S (fun q => Γ.1 ≤ q) s.heap H1 locs1 → W p l e R s m args below meth c H1 locs1 (cl + mc) (sl + ms) Z (F0 m (pc + 3) ls ((r.map (sm_V Γ.2.1)).toList ++ rest))) : W p l e R s m args below meth c H locs cl sl Z (F0 m pc ls st0) := by
  intro T hT X
  obtain ⟨v, st₀, t, T', L, h0, X', hL, e1, e2, ⟨⟨r, n', sh', I', hv, hq, hH⟩, hz, hk⟩, st⟩ := hr T hT X
  rw [h0] at hz hk
  have hv' : v = r.map (sm_V Γ.2.1) := Outcome.returned.inj hv
  subst hv'
  obtain ⟨t2, a1, b1⟩ := kk r n' sh' I' T'.heap (locs ++ L) hq (by rw [e1]; exact hH)
    ⟨Nat.le_trans hS.1 (by rw [e1]; exact hz), fun q h1 h2 => by rw [e1, hk q (Nat.lt_of_lt_of_le h1 hS.1) h2]; exact hS.2.1 q h1 h2, fun q hq => by
      rcases List.mem_append.mp hq with h | h
      · exact hS.2.2 q h
      · exact hL q h⟩ T' rfl X'
  exact ⟨t2, st t2 a1, b1⟩
/-- a method that can be called: its words -/
def sm_Me (μ' : sm_Mu) (k : Nat) : Prop := Cond.code μ'.1 μ'.2.1 μ'.2.2.1 μ'.2.2.2 ∈ lw_good ∧ Cond.initialized μ'.1.cls ∈ lw_good ∧ (μ'.1.cls ≠ "java/lang/invoke/MethodHandle" ∧ μ'.1.cls ≠ "java/lang/invoke/VarHandle") ∧ (parseMethodDescriptor μ'.1.desc).map (fun d => d.parameters.length) = some k
theorem sm_good_pay {args : Array Value} {s : State} (hts : ∀ w ∈ lw_good, w.before args s = true) {μ' : sm_Mu} (h : Cond.code μ'.1 μ'.2.1 μ'.2.2.1 μ'.2.2.2 ∈ lw_good) : ∀ w ∈ sm_ws μ', ∀ (a' : Array Value) (U : State), s.WarmedH U.vm → w.before a' U = true := by
  refine pay_in hts (fun w hw => ?_)
  rcases List.mem_cons.mp hw with rfl | hw
  · exact ⟨h, good_of_word (lw_good_good h)⟩
  · exact ⟨hw, good_of_word (lw_good_good hw)⟩
theorem sm_CB {s : State} {args : Array Value} {own : String} {idx d mc ms k : Nat} {μ' : sm_Mu} (hts : ∀ w ∈ lw_good, w.before args s = true) (hm : sm_Me μ' k) (hl : Cond.methodLink own idx μ'.1 ∈ lw_good) (hroom : d + 1 ≤ R.frames ∧ 8 + (μ'.2.2.1 + 11) + 40 * d ≤ R.locals) : CallB R s args own idx μ'.1 μ'.2.1 μ'.2.2.1 μ'.2.2.2 (sm_ws μ') (sm_rm d mc ms) mc ms k := by
  obtain ⟨h1, h2, h3, h4⟩ := hm
  refine ⟨rfl, rfl, hroom.1, hroom.2, sm_good_pay hts h1, List.mem_cons_self, hts _ h1, hts _ h2, h3, fun sig h => ?_, hts _ hl⟩
  rw [h] at h4
  exact (Option.some.inj h4).symm
theorem sm_catsum (ad : Nat → Nat) (st : List Value) : ((st.map (sm_V ad)).map fun v => v.category) = st.map fun v => v.category := by
  rw [List.map_map]
  exact List.map_congr_left fun v _ => sm_V_cat _ v
theorem x_callV {idx d mc ms a ci : Nat} {μ' : sm_Mu} {as stk : List Value} {Q' : sm_Qt} {rs : List (Option Nat)} {K : vw_C} (hd : decode μ.2.1 pc = .ok (.invokevirtual idx, 3)) (hE : Em d mc ms μ' (.ref a :: as) n sh I Q') (hstk : stk = as.reverse ++ .ref a :: st) (hm : sm_Me μ' as.length) (hin : Cond.instanceMethod μ'.1 ∈ lw_good) (hsel : Cond.selects μ'.1.cls μ'.1 μ'.1 ∈ lw_good) (hl : Cond.methodLink μ.1.cls idx μ'.1 ∈ lw_good) (ha : a < n) (hs : sh a = (0, ci, rs)) (hc : vwCl[ci]? = some K) (hK : K.1 = μ'.1.cls)
    (hroom : d + 1 ≤ R.frames ∧ 8 + (μ'.2.2.1 + 11) + 40 * d ≤ R.locals) (hcs : cl + mc ≤ R.cells ∧ sl + ms ≤ R.slots) (hst : (st.map fun v => v.category).sum ≤ 8)
    (kk : ∀ r n' sh' I', Q' r n' sh' I' → Xm ζ R μ (pc + 3) lv (r.toList ++ st) (cl + mc) (sl + ms) n' sh' I' Q) : Xm ζ R μ pc lv stk cl sl n sh I Q := by
  intro Γ p l e s m args below meth c Z H locs ls C D
  subst hstk
  have hKs := C.2.2.2.2.2.2.1
  have hts := C.2.2.2.2.1
  have he := D.2.1.2.2 a ha
  rw [sm_E_obj hs] at he
  obtain ⟨r', g1, cell, q1, q2, q3, -⟩ := he
  refine sm_call (rest := st.map (sm_V Γ.2.1)) (va_runV (As := as.map (sm_V Γ.2.1)) (rest := st.map (sm_V Γ.2.1)) (b := Γ.2.1 a) (C := μ'.1.cls) ⟨C.1, C.2.1, C.2.2.1, C.2.2.2.1, hts⟩ (hE ζ l Γ) ⟨sm_CB hts hm hl hroom, hts _ hin, hts _ hsel⟩ ⟨sm_Pc.blind, ⟨cell, q1, by rw [q3]; rfl, ?_⟩, fun U hU hW => ⟨rfl, by rw [hU]; exact D.2.1, hKs.pass hW (by rw [hU]; exact D.1)⟩⟩ rfl (List.length_map ..) D.2.2.1 ?_ ?_ hd hcs) D.1 (fun r n' sh' I' H1 locs1 hq hH1 hS1 => ?_)
  · rw [q2, ← hK]
    exact (hKs.2.1.1 ci K hc).2.1
  · simp [sm_V]
  · show 2 * 0 + _ ≤ 8
    rw [sm_catsum]; omega
  · have h := kk r n' sh' I' hq Γ p l e s m args below meth c Z H1 locs1 ls C ⟨hS1, hH1, D.2.2⟩
    cases r <;> exact h
theorem x_callS {idx d mc ms : Nat} {μ' : sm_Mu} {as stk : List Value} {Q' : sm_Qt} (hd : decode μ.2.1 pc = .ok (.invokestatic idx, 3)) (hE : Em d mc ms μ' as n sh I Q') (hstk : stk = as.reverse ++ st) (hm : sm_Me μ' as.length) (hstt : Cond.static μ'.1 ∈ lw_good) (hl : Cond.methodLink μ.1.cls idx μ'.1 ∈ lw_good)
    (hroom : d + 1 ≤ R.frames ∧ 8 + (μ'.2.2.1 + 11) + 40 * d ≤ R.locals) (hcs : cl + mc ≤ R.cells ∧ sl + ms ≤ R.slots) (hst : (st.map fun v => v.category).sum ≤ 8)
    (kk : ∀ r n' sh' I', Q' r n' sh' I' → Xm ζ R μ (pc + 3) lv (r.toList ++ st) (cl + mc) (sl + ms) n' sh' I' Q) : Xm ζ R μ pc lv stk cl sl n sh I Q := by
  intro Γ p l e s m args below meth c Z H locs ls C D
  subst hstk
  have hKs := C.2.2.2.2.2.2.1
  have hts := C.2.2.2.2.1
  refine sm_call (rest := st.map (sm_V Γ.2.1)) (va_runS (As := as.map (sm_V Γ.2.1)) (rest := st.map (sm_V Γ.2.1)) ⟨C.1, C.2.1, C.2.2.1, C.2.2.2.1, hts⟩ (hE ζ l Γ) ⟨sm_CB hts hm hl hroom, hts _ hstt⟩ ⟨sm_Pc.blind, fun U hU hW => ⟨rfl, by rw [hU]; exact D.2.1, hKs.pass hW (by rw [hU]; exact D.1)⟩⟩ rfl (List.length_map ..) D.2.2.1 ?_ ?_ hd hcs) D.1 (fun r n' sh' I' H1 locs1 hq hH1 hS1 => ?_)
  · simp [sm_V]
  · show 2 * 0 + _ ≤ 8
    rw [sm_catsum]; omega
  · have h := kk r n' sh' I' hq Γ p l e s m args below meth c Z H1 locs1 ls C ⟨hS1, hH1, D.2.2⟩
    cases r <;> exact h
theorem x_callI {idx d mc ms a : Nat} {μ' : sm_Mu} {as stk : List Value} {Q' : sm_Qt} (hd : decode μ.2.1 pc = .ok (.invokespecial idx, 3)) (hE : Em d mc ms μ' (.ref a :: as) n sh I Q') (hstk : stk = as.reverse ++ .ref a :: st) (hret : μ'.2.2.2 = none) (hnm : μ'.1.name = "<init>") (hm : sm_Me μ' as.length) (hin : Cond.instanceMethod μ'.1 ∈ lw_good) (hl : Cond.methodLink μ.1.cls idx μ'.1 ∈ lw_good)
    (hroom : d + 1 ≤ R.frames ∧ 8 + (μ'.2.2.1 + 11) + 40 * d ≤ R.locals) (hcs : cl + mc ≤ R.cells ∧ sl + ms ≤ R.slots) (hst : (st.map fun v => v.category).sum ≤ 8)
    (kk : ∀ r n' sh' I', Q' r n' sh' I' → Xm ζ R μ (pc + 3) lv (r.toList ++ st) (cl + mc) (sl + ms) n' sh' I' Q) : Xm ζ R μ pc lv stk cl sl n sh I Q := by
  intro Γ p l e s m args below meth c Z H locs ls C D
  subst hstk
  have hKs := C.2.2.2.2.2.2.1
  have hts := C.2.2.2.2.1
  have hCB := sm_CB (R := R) (mc := mc) (ms := ms) hts hm hl hroom
  rw [hret] at hCB
  refine sm_call (rest := st.map (sm_V Γ.2.1)) (va_runI (As := as.map (sm_V Γ.2.1)) (rest := st.map (sm_V Γ.2.1)) (b := Γ.2.1 a) ⟨C.1, C.2.1, C.2.2.1, C.2.2.2.1, hts⟩ (hE ζ l Γ) ⟨hCB, hnm, hts _ hin⟩ ⟨sm_Pc.blind, fun U hU hW => ⟨rfl, by rw [hU]; exact D.2.1, hKs.pass hW (by rw [hU]; exact D.1)⟩⟩ rfl (List.length_map ..) D.2.2.1 ?_ ?_ hd hcs) D.1 (fun r n' sh' I' H1 locs1 hq hH1 hS1 => ?_)
  · simp [sm_V]
  · show 2 * 0 + _ ≤ 8
    rw [sm_catsum]; omega
  · have h := kk r n' sh' I' hq Γ p l e s m args below meth c Z H1 locs1 ls C ⟨hS1, hH1, D.2.2⟩
    cases r <;> exact h
/-- a nest mate's private constructor -/
theorem x_callIN {idx d mc ms a : Nat} {host : String} {μ' : sm_Mu} {as stk : List Value} {Q' : sm_Qt} (hd : decode μ.2.1 pc = .ok (.invokespecial idx, 3)) (hE : Em d mc ms μ' (.ref a :: as) n sh I Q') (hstk : stk = as.reverse ++ .ref a :: st) (hret : μ'.2.2.2 = none) (hnm : μ'.1.name = "<init>") (hm : sm_Me μ' as.length) (hin : Cond.instanceMethod μ'.1 ∈ lw_good) (hl : ∀ U : State, sm_N U → va_Nw (.methodLinkNest μ.1.cls idx μ'.1 host) U)
    (hroom : d + 1 ≤ R.frames ∧ 8 + (μ'.2.2.1 + 11) + 40 * d ≤ R.locals) (hcs : cl + mc ≤ R.cells ∧ sl + ms ≤ R.slots) (hst : (st.map fun v => v.category).sum ≤ 8)
    (kk : ∀ r n' sh' I', Q' r n' sh' I' → Xm ζ R μ (pc + 3) lv (r.toList ++ st) (cl + mc) (sl + ms) n' sh' I' Q) : Xm ζ R μ pc lv stk cl sl n sh I Q := by
  intro Γ p l e s m args below meth c Z H locs ls C D
  subst hstk
  have hKs := C.2.2.2.2.2.2.1
  have hts := C.2.2.2.2.1
  have hCN : va_CN R s args μ.1.cls idx μ'.1 host μ'.2.1 μ'.2.2.1 none (sm_ws μ') (sm_rm d mc ms) mc ms as.length := by
    obtain ⟨h1, h2, h3, h4⟩ := hm
    rw [← hret]
    refine ⟨⟨rfl, rfl, hroom.1, hroom.2, sm_good_pay hts h1, List.mem_cons_self⟩, hts _ h1, hts _ h2, h3, fun sig h => ?_, va_Nw.use rfl (hl s hKs.2.2.1)⟩
    rw [h] at h4
    exact (Option.some.inj h4).symm
  refine sm_call (rest := st.map (sm_V Γ.2.1)) (va_runIN (As := as.map (sm_V Γ.2.1)) (rest := st.map (sm_V Γ.2.1)) (b := Γ.2.1 a) ⟨C.1, C.2.1, C.2.2.1, C.2.2.2.1, hts⟩ (hE ζ l Γ) ⟨hCN, hnm, hts _ hin⟩ ⟨sm_Pc.blind, fun U hU hW => ⟨rfl, by rw [hU]; exact D.2.1, hKs.pass hW (by rw [hU]; exact D.1)⟩⟩ rfl (List.length_map ..) D.2.2.1 ?_ ?_ hd hcs) D.1 (fun r n' sh' I' H1 locs1 hq hH1 hS1 => ?_)
  · simp [sm_V]
  · show 2 * 0 + _ ≤ 8
    rw [sm_catsum]; omega
  · have h := kk r n' sh' I' hq Γ p l e s m args below meth c Z H1 locs1 ls C ⟨hS1, hH1, D.2.2⟩
    cases r <;> exact h
/-! ===== the law's script ===== -/
theorem x_sld {i : Int32} (hd : decode μ.2.1 pc = .ok (.iaload, 1)) (hin : vp_in i ζ.1) (kk : Xm ζ R μ (pc + 1) lv (.int (ζ.2 i.toNatClampNeg) :: st) cl sl n sh I Q) : Xm ζ R μ pc lv (.int i :: .ref 1000000 :: st) cl sl n sh I Q := by
  intro Γ p l e s m args below meth c Z H locs ls C D
  obtain ⟨-, -, -, ⟨-, -, -, -, -, h6, h7⟩, h5⟩ := C.2.2.2.2.2.2.1
  exact va_sld C.1 C.2.1 h6 (Nat.lt_of_lt_of_le h7 h5) (Nat.not_le.mpr h7) D.1 hin hd (kk Γ p l e s m args below meth c Z H locs ls C D)
theorem x_slen (hd : decode μ.2.1 pc = .ok (.arraylength, 1)) (kk : Xm ζ R μ (pc + 1) lv (.int (Int32.ofNat ζ.1) :: st) cl sl n sh I Q) : Xm ζ R μ pc lv (.ref 1000000 :: st) cl sl n sh I Q := by
  intro Γ p l e s m args below meth c Z H locs ls C D
  obtain ⟨-, -, -, ⟨-, -, -, -, -, h6, h7⟩, h5⟩ := C.2.2.2.2.2.2.1
  exact va_slen C.1 C.2.1 h6 (Nat.lt_of_lt_of_le h7 h5) (Nat.not_le.mpr h7) D.1 hd (kk Γ p l e s m args below meth c Z H locs ls C D)
/-- a weaker end -/
theorem Xm.mono {Q' : sm_Qt} (h : ∀ r n sh I, Q' r n sh I → Q r n sh I) (k : Xm ζ R μ pc lv st cl sl n sh I Q') : Xm ζ R μ pc lv st cl sl n sh I Q := by
  intro Γ p l e s m args below meth c Z H locs ls C D
  obtain ⟨c1, c2, c3, c4, c5, c6, c7, c8⟩ := C
  exact k Γ p l e s m args below meth c Z H locs ls ⟨c1, c2, c3, c4, c5, c6, c7, fun r n sh I H locs cl sl pc ls z1 z2 z3 => c8 r n sh I H locs cl sl pc ls z1 z2 (h r n sh I z3)⟩ D
end SMX
/-! ===== a contract out of a walk ===== -/
theorem sm_L_entry {ad : Nat → Nat} {as : List Value} {nL : Nat} (hcat : ∀ v ∈ as, v.category = 1) (hlen : as.length ≤ nL) : sm_L ad ((((as.map (sm_V ad)).map Slot.val) ++ List.replicate (nL - (as.map (sm_V ad)).length) Slot.unset).toArray) nL (as.map some ++ List.replicate (nL - as.length) none) := by
  have hget : ∀ (i : Nat) (z : Slot), ((((as.map (sm_V ad)).map Slot.val) ++ List.replicate (nL - (as.map (sm_V ad)).length) Slot.unset).toArray)[i]? = some z → z = .unset ∨ ∃ v, as[i]? = some v ∧ z = .val (sm_V ad v) := by
    intro i z h
    rw [List.getElem?_toArray] at h
    by_cases hi : i < as.length
    · rw [List.getElem?_append_left (by simp [hi]), List.getElem?_map, List.getElem?_map] at h
      cases hv : as[i]? with
      | none => rw [hv] at h; cases h
      | some v => rw [hv] at h; cases h; exact Or.inr ⟨v, rfl, rfl⟩
    · rw [List.getElem?_append_right (by simp; omega), List.getElem?_replicate] at h
      split at h
      · cases h; exact Or.inl rfl
      · cases h
  refine ⟨by simp; omega, ⟨fun i v h h2 => ?_, fun i h => ?_⟩, fun i v h => ?_⟩
  · rcases hget i _ h with h3 | ⟨w, h3, h4⟩
    · cases h3
    · cases h4
      rw [sm_V_cat, hcat w (List.mem_of_getElem? h3)] at h2
      cases h2
  · rcases hget i _ h with h3 | ⟨w, h3, h4⟩
    · cases h3
    · cases h4
  · by_cases hi : i < as.length
    · rw [List.getElem?_append_left (by simp [hi]), List.getElem?_map] at h
      cases hv : as[i]? with
      | none => rw [hv] at h; cases h
      | some w =>
        rw [hv] at h
        cases h
        refine ⟨hcat _ (List.mem_of_getElem? hv), ?_⟩
        rw [List.getElem?_toArray, List.getElem?_append_left (by simp [hi]), List.getElem?_map, List.getElem?_map, hv]
        rfl
    · rw [List.getElem?_append_right (by simp; omega), List.getElem?_replicate] at h
      split at h <;> cases h
theorem Em.of {d mc ms : Nat} {μ : sm_Mu} {as : List Value} {n : Nat} {sh : Nat → sm_S} {I : sm_I} {Q : sm_Qt} (hy : plainName μ.1.cls = true) (hcat : ∀ v ∈ as, v.category = 1) (hlen : as.length ≤ μ.2.2.1) (hb : ∀ ζ, Xm ζ (sm_rm d mc ms) μ 0 (as.map some ++ List.replicate (μ.2.2.1 - as.length) none) [] 0 0 n sh I Q) : Em d mc ms μ as n sh I Q := by
  intro ζ l Γ
  refine Met.ofW (cc := μ.2.1) (maxL := μ.2.2.1) (ret := μ.2.2.2) hy rfl ?_
  intro p e s m args below meth c s₁ B hml hv
  obtain ⟨rfl, hH, hK⟩ := hv
  have hts := atoms_spec (ws := sm_ws μ) B.pre
  have hown : s.vm.findClass μ.1.cls = some m.cls := findClass_of_methodNamed B.named
  have hr := B.returns
  have hlocks := B.notSynchronized
  rw [entry_eq m (as.map (sm_V Γ.2.1)) (fun v hv => by obtain ⟨w, h1, rfl⟩ := List.mem_map.mp hv; rw [sm_V_cat]; exact hcat w h1) μ.2.2.1]
  refine hb ζ Γ p l e s m _ below meth c _ s.heap [] _ ⟨B.exec, B.bytes, hml, hown, fun w hw => hts w (List.mem_cons_of_mem _ hw), (name_of_methodNamed B.named B.method).1, hK, ?_⟩ ⟨va_S.rf, hH, sm_L_entry hcat hlen⟩
  intro r n' sh' I' H locs cl sl pc ls hc hs hq hH' hS hR
  refine W.widen (k := mc) (n := ms) hc hs ?_
  cases r with
  | none => exact W.vret B.exec B.bytes (hr.trans hR.1) (fun t ht hW => ⟨⟨none, n', sh', I', rfl, hq, by rw [ht]; exact hH'⟩, hS.F ht⟩) hS.2.2 hR.2 hlocks
  | some v =>
    cases v with
    | int x =>
      obtain ⟨⟨ty, h1, h2⟩, h3⟩ := hR
      exact W.zret B.exec B.bytes (hr.trans h1) h2 (fun t ht hW => ⟨⟨some (.int x), n', sh', I', rfl, hq, by rw [ht]; exact hH'⟩, hS.F ht⟩) hS.2.2 h3 hlocks
    | float x => exact W.fret B.exec B.bytes (hr.trans hR.1) (fun t ht hW => ⟨⟨some (.float x), n', sh', I', rfl, hq, by rw [ht]; exact hH'⟩, hS.F ht⟩) hS.2.2 hR.2 hlocks
    | ref x =>
      obtain ⟨⟨t, h1⟩, h3⟩ := hR
      exact W.aret B.exec B.bytes (hr.trans h1) (Or.inl ⟨t, rfl⟩) (Or.inr ⟨_, rfl⟩) (fun t ht hW => ⟨⟨some (.ref x), n', sh', I', rfl, hq, by rw [ht]; exact hH'⟩, hS.F ht⟩) hS.2.2 h3 hlocks
    | _ => exact hR.elim
theorem i_vc : Claimed_1_1 ∧ Claimed_1_2 := sorry
end
